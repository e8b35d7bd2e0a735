
theorem upR_s (rs : Nat → Nat → Int32) (j : Nat) (g : Nat → Int32) : upR rs j g j = g := by unfold upR; rw [if_pos rfl]
theorem upR_n (rs : Nat → Nat → Int32) {i j : Nat} (g : Nat → Int32) (h : ¬ i = j) : upR rs j g i = rs i := by unfold upR; rw [if_neg h]
/-- the sheets of both: lanes and sizes of those that are there, and every item -/
def shR (ml mm mi sl ss : Nat → Int32) (rs : Nat → Nat → Int32) : Prop :=
  ∀ j : Nat, j < 8 → ((((ml j).toInt < 0 ∧ (ss j).toInt = -1) ∨ (0 ≤ (ml j).toInt ∧ ss j = mm j ∧ sl j = ml j)) ∧ ∀ k : Nat, k < 60 → mi (60 * j + k) = rs j k)
theorem shR_at {ml mm mi sl ss : Nat → Int32} {rs : Nat → Nat → Int32} (h : shR ml mm mi sl ss rs) (hm : okM mm) {a : Int32} (h0 : 0 ≤ a.toInt) (h1 : a.toInt < 8) : ((ml a.toNatClampNeg).toInt < 0 ∧ (ss a.toNatClampNeg).toInt = -1) ∨ (0 ≤ (ml a.toNatClampNeg).toInt ∧ ss a.toNatClampNeg = mm a.toNatClampNeg ∧ sl a.toNatClampNeg = ml a.toNatClampNeg ∧ 0 ≤ (mm a.toNatClampNeg).toInt ∧ (mm a.toNatClampNeg).toInt ≤ 60 ∧ (ss a.toNatClampNeg).toInt = (mm a.toNatClampNeg).toInt ∧ (sl a.toNatClampNeg).toInt = (ml a.toNatClampNeg).toInt) := by
  have ca := i_cl h0
  have hj : a.toNatClampNeg < 8 := by omega
  rcases (h _ hj).1 with q | ⟨q1, q2, q3⟩
  · exact Or.inl q
  · have := hm _ hj
    exact Or.inr ⟨q1, q2, q3, this.1, this.2, by rw [q2], by rw [q3]⟩
theorem shR_sheet {lf lf' r mst mst' a b n : Int32} {ml mm mi sl ss ml' mm' mi' sl' ss' : Nat → Int32} {rs rs' : Nat → Nat → Int32} (h : shR ml mm mi sl ss rs) (x : (r, lf', rs', sl', ss') = sp_sheet lf rs sl ss a b n) (m : ps_sheet mst ml mm mi a b n mst' ml' mm' mi') : shR ml' mm' mi' sl' ss' rs' ∧ (mst = lf → mst' = lf') := by
  unfold sp_sheet at x
  unfold ps_sheet at m
  split at x
  · rename_i c
    rw [if_pos (by omega)] at m
    split at x
    · rename_i c2
      rw [if_pos c2] at m
      obtain ⟨m1, m2, m3, m4⟩ := m
      simp only [Prod.mk.injEq] at x
      obtain ⟨-, rfl, rfl, rfl, rfl⟩ := x
      subst m1 m2 m3 m4
      exact ⟨h, fun _ => rfl⟩
    · rename_i c2
      rw [if_neg c2] at m
      obtain ⟨m1, m2, m3, m4⟩ := m
      simp only [Prod.mk.injEq] at x
      obtain ⟨-, rfl, rfl, rfl, rfl⟩ := x
      subst m1 m2 m3
      have ca := i_cl (x := a) (by omega)
      refine ⟨fun j hj => ?_, fun _ => rfl⟩
      by_cases e : j = a.toNatClampNeg
      · subst e
        rw [upd_s, upd_s, upd_s, upd_s, upR_s]
        exact ⟨Or.inr ⟨by omega, rfl, rfl⟩, fun k hk => by rw [m4, if_pos (by omega)]⟩
      · rw [upd_n _ _ e, upd_n _ _ e, upd_n _ _ e, upd_n _ _ e, upR_n _ _ e]
        exact ⟨(h j hj).1, fun k hk => by rw [m4, if_neg (by omega)]; exact (h j hj).2 k hk⟩
  · rename_i c
    rw [if_neg (by omega)] at m
    obtain ⟨m1, m2, m3, m4⟩ := m
    simp only [Prod.mk.injEq] at x
    obtain ⟨-, rfl, rfl, rfl, rfl⟩ := x
    subst m1 m2 m3 m4
    exact ⟨h, fun z => z⟩
theorem shR_set {lf lf' r r' mst mst' a i v : Int32} {ml mm mi sl ss mi' : Nat → Int32} {rs rs' : Nat → Nat → Int32} (h : shR ml mm mi sl ss rs) (hm : okM mm) (x : (r, lf', rs') = sp_set lf rs sl ss a i v) (m : ps_set mst ml mm mi a i v r' mst' mi') : r = r' ∧ shR ml mm mi' sl ss rs' ∧ (mst = lf → mst' = lf') := by
  unfold sp_set at x
  unfold ps_set at m
  split at x
  · rename_i c
    rw [if_pos (by omega)] at m
    have ca := i_cl (x := a) (by omega)
    have q := shR_at h hm c.1 c.2
    split at x
    · rename_i c2
      rw [if_pos (by omega)] at m
      obtain ⟨m1, m2, m3⟩ := m
      simp only [Prod.mk.injEq] at x
      obtain ⟨rfl, rfl, rfl⟩ := x
      subst m1 m2 m3
      exact ⟨rfl, h, fun _ => rfl⟩
    · rename_i c2
      rw [if_neg (by omega)] at m
      rcases q with q | ⟨q1, q2, q3, q4, q5, q6, q7⟩
      · omega
      split at x
      · rename_i c3
        rw [if_pos (by omega)] at m
        obtain ⟨m1, m2, m3⟩ := m
        simp only [Prod.mk.injEq] at x
        obtain ⟨rfl, rfl, rfl⟩ := x
        have ci := i_cl (x := i) (by omega)
        rw [q3]
        refine ⟨m1.symm, fun j hj => ⟨(h j hj).1, fun k hk => ?_⟩, fun _ => m2⟩
        rw [m3, m1]
        by_cases e : j = a.toNatClampNeg
        · subst e
          rw [upR_s]
          by_cases ek : k = i.toNatClampNeg
          · subst ek
            rw [upd_s, upd_s]
          · rw [upd_n _ _ ek, upd_n _ _ (by omega)]
            exact (h _ hj).2 k hk
        · rw [upR_n _ _ e, upd_n _ _ (by omega)]
          exact (h _ hj).2 k hk
      · rename_i c3
        rw [if_neg (by omega)] at m
        obtain ⟨m1, m2, m3⟩ := m
        simp only [Prod.mk.injEq] at x
        obtain ⟨rfl, rfl, rfl⟩ := x
        subst m1 m2 m3
        exact ⟨rfl, h, fun _ => rfl⟩
  · rename_i c
    rw [if_neg (by omega)] at m
    obtain ⟨m1, m2, m3⟩ := m
    simp only [Prod.mk.injEq] at x
    obtain ⟨rfl, rfl, rfl⟩ := x
    subst m1 m2 m3
    exact ⟨rfl, h, fun z => z⟩
theorem shR_copy {lf lf' r r' mst mst' a i b j n : Int32} {ml mm mi sl ss mi' : Nat → Int32} {rs rs' : Nat → Nat → Int32} (h : shR ml mm mi sl ss rs) (hm : okM mm) (x : (r, lf', rs') = sp_copy lf rs sl ss a i b j n) (m : ps_copy mst ml mm mi a i b j n r' mst' mi') : r = r' ∧ shR ml mm mi' sl ss rs' ∧ (mst = lf → mst' = lf') := by
  unfold sp_copy at x
  unfold ps_copy at m
  split at x
  · rename_i c
    rw [if_pos (by omega)] at m
    have ca := i_cl (x := a) (by omega)
    have cb := i_cl (x := b) (by omega)
    have q := shR_at h hm (a := a) (by omega) (by omega)
    have p := shR_at h hm (a := b) (by omega) (by omega)
    split at x
    · rename_i c2
      rw [if_pos (by omega)] at m
      obtain ⟨m1, m2, m3⟩ := m
      simp only [Prod.mk.injEq] at x
      obtain ⟨rfl, rfl, rfl⟩ := x
      subst m1 m2 m3
      exact ⟨rfl, h, fun _ => rfl⟩
    · rename_i c2
      rw [if_neg (by omega)] at m
      rcases q with q | ⟨q1, q2, q3, q4, q5, q6, q7⟩
      · omega
      rcases p with p | ⟨p1, p2, p3, p4, p5, p6, p7⟩
      · omega
      split at x
      · rename_i c3
        rw [if_pos (by omega)] at m
        obtain ⟨m1, m2, m3⟩ := m
        simp only [Prod.mk.injEq] at x
        obtain ⟨rfl, rfl, rfl⟩ := x
        subst m1 m2 m3
        exact ⟨rfl, h, fun _ => rfl⟩
      · rename_i c3
        rw [if_neg (by omega)] at m
        split at x
        · rename_i c4
          rw [if_pos (by omega)] at m
          obtain ⟨m1, m2, m3⟩ := m
          simp only [Prod.mk.injEq] at x
          obtain ⟨xr, rfl, rfl⟩ := x
          have ci := i_cl (x := i) (by omega)
          have cj := i_cl (x := j) (by omega)
          have cn := i_cl (x := n) (by omega)
          refine ⟨xr.trans m1.symm, fun z hz => ⟨(h z hz).1, fun k hk => ?_⟩, fun _ => m2⟩
          rw [m3]
          unfold cpyd
          by_cases e : z = b.toNatClampNeg
          · subst e
            rw [upR_s]
            unfold va_cpy
            by_cases ek : j.toNatClampNeg ≤ k ∧ k < j.toNatClampNeg + n.toNatClampNeg
            · rw [if_pos ek, if_pos (by omega)]
              have := (h a.toNatClampNeg (by omega)).2 (i.toNatClampNeg + (k - j.toNatClampNeg)) (by omega)
              rw [← this]
              congr 1
              omega
            · rw [if_neg ek, if_neg (by omega)]
              exact (h _ hz).2 k hk
          · rw [upR_n _ _ e, if_neg (by omega)]
            exact (h _ hz).2 k hk
        · rename_i c4
          rw [if_neg (by omega)] at m
          obtain ⟨m1, m2, m3⟩ := m
          simp only [Prod.mk.injEq] at x
          obtain ⟨rfl, rfl, rfl⟩ := x
          subst m1 m2 m3
          exact ⟨rfl, h, fun _ => rfl⟩
  · rename_i c
    rw [if_neg (by omega)] at m
    obtain ⟨m1, m2, m3⟩ := m
    simp only [Prod.mk.injEq] at x
    obtain ⟨rfl, rfl, rfl⟩ := x
    subst m1 m2 m3
    exact ⟨rfl, h, fun z => z⟩
theorem shR_drop {lf lf' r r' mst mst' a : Int32} {ml mm mi sl ss ml' ss' : Nat → Int32} {rs : Nat → Nat → Int32} (h : shR ml mm mi sl ss rs) (hm : okM mm) (x : (r, lf', ss') = sp_drop lf ss a) (m : ps_drop mst ml mm a r' mst' ml') : r = r' ∧ shR ml' mm mi sl ss' rs ∧ (mst = lf → mst' = lf') := by
  have km : (-1 : Int32).toInt = -1 := rfl
  unfold sp_drop at x
  unfold ps_drop at m
  split at x
  · rename_i c
    rw [if_pos (by omega)] at m
    have ca := i_cl (x := a) (by omega)
    have q := shR_at h hm c.1 c.2
    split at x
    · rename_i c2
      rw [if_pos (by omega)] at m
      obtain ⟨m1, m2, m3⟩ := m
      simp only [Prod.mk.injEq] at x
      obtain ⟨rfl, rfl, rfl⟩ := x
      subst m1 m2 m3
      exact ⟨rfl, h, fun _ => rfl⟩
    · rename_i c2
      rw [if_neg (by omega)] at m
      rcases q with q | ⟨q1, q2, q3, q4, q5, q6, q7⟩
      · omega
      obtain ⟨m1, m2, m3⟩ := m
      simp only [Prod.mk.injEq] at x
      obtain ⟨rfl, rfl, rfl⟩ := x
      subst m1 m2 m3
      refine ⟨q2, fun j hj => ?_, fun _ => rfl⟩
      by_cases e : j = a.toNatClampNeg
      · subst e
        rw [upd_s, upd_s]
        exact ⟨Or.inl ⟨by omega, km⟩, (h _ hj).2⟩
      · rw [upd_n _ _ e, upd_n _ _ e]
        exact h j hj
  · rename_i c
    rw [if_neg (by omega)] at m
    obtain ⟨m1, m2, m3⟩ := m
    simp only [Prod.mk.injEq] at x
    obtain ⟨rfl, rfl, rfl⟩ := x
    subst m1 m2 m3
    exact ⟨rfl, h, fun z => z⟩
theorem shR_holds {lf lf' mst mst' a i n hn r r' hn' hn2 : Int32} {ml mm mi sl ss ho hc hp hs ho' hc' hp' hs' ho2 hc2 hp2 hs2 : Nat → Int32} {rs : Nat → Nat → Int32} (h : shR ml mm mi sl ss rs) (hm : okM mm) (x : (r, lf', hn', ho', hc', hp', hs') = sp_holds lf rs ss hn ho hc hp hs a i n) (m : (r', mst', hn2, ho2, hc2, hp2, hs2) = sm_holds mst ml mm mi hn ho hc hp hs a i n) : r = r' ∧ hn2 = hn' ∧ ho2 = ho' ∧ hc2 = hc' ∧ hp2 = hp' ∧ hs2 = hs' ∧ (mst = lf → mst' = lf') := by
  unfold sp_holds at x
  unfold sm_holds at m
  by_cases c : 0 ≤ a.toInt ∧ a.toInt < 8 ∧ 1 ≤ n.toInt ∧ n.toInt ≤ 15
  · rw [if_pos c] at x m
    have ca := i_cl (x := a) (by omega)
    have cn := i_cl (x := n) (by omega)
    have q := shR_at h hm (a := a) (by omega) (by omega)
    by_cases c2 : (ml a.toNatClampNeg).toInt < 0
    · rw [if_pos c2] at m
      rw [if_pos (show (ss a.toNatClampNeg).toInt = -1 by omega)] at x
      simp only [Prod.mk.injEq] at x m
      obtain ⟨rfl, rfl, rfl, rfl, rfl, rfl, rfl⟩ := x
      obtain ⟨rfl, rfl, rfl, rfl, rfl, rfl, rfl⟩ := m
      exact ⟨rfl, rfl, rfl, rfl, rfl, rfl, fun _ => rfl⟩
    · rcases q with q | ⟨q1, q2, q3, q4, q5, q6, q7⟩
      · omega
      rw [if_neg c2] at m
      rw [if_neg (show ¬ (ss a.toNatClampNeg).toInt = -1 by omega)] at x
      by_cases c3 : 0 ≤ i.toInt ∧ i.toInt + 4 * n.toInt ≤ (mm a.toNatClampNeg).toInt
      · have ci := i_cl (x := i) (by omega)
        rw [if_pos c3, foldH_c (it := mi) (jt := rs a.toNatClampNeg) (j := i.toNatClampNeg) n.toNatClampNeg (fun k hk => by rw [Nat.add_assoc]; exact (h a.toNatClampNeg (by omega)).2 _ (by omega))] at m
        rw [if_pos (show 0 ≤ i.toInt ∧ i.toInt + 4 * n.toInt ≤ (ss a.toNatClampNeg).toInt by omega)] at x
        generalize foldH (rs a.toNatClampNeg) i.toNatClampNeg hn ho hc hp hs n.toNatClampNeg = F at x m
        obtain ⟨F1, F2, F3, F4, F5, F6⟩ := F
        simp only [Prod.mk.injEq] at x m
        obtain ⟨rfl, rfl, rfl, rfl, rfl, rfl, rfl⟩ := x
        obtain ⟨rfl, rfl, rfl, rfl, rfl, rfl, rfl⟩ := m
        exact ⟨rfl, rfl, rfl, rfl, rfl, rfl, fun _ => rfl⟩
      · rw [if_neg c3] at m
        rw [if_neg (show ¬ (0 ≤ i.toInt ∧ i.toInt + 4 * n.toInt ≤ (ss a.toNatClampNeg).toInt) by omega)] at x
        simp only [Prod.mk.injEq] at x m
        obtain ⟨rfl, rfl, rfl, rfl, rfl, rfl, rfl⟩ := x
        obtain ⟨rfl, rfl, rfl, rfl, rfl, rfl, rfl⟩ := m
        exact ⟨rfl, rfl, rfl, rfl, rfl, rfl, fun _ => rfl⟩
  · rw [if_neg c] at x m
    simp only [Prod.mk.injEq] at x m
    obtain ⟨rfl, rfl, rfl, rfl, rfl, rfl, rfl⟩ := x
    obtain ⟨rfl, rfl, rfl, rfl, rfl, rfl, rfl⟩ := m
    exact ⟨rfl, rfl, rfl, rfl, rfl, rfl, fun z => z⟩


theorem nI_cl {n : Nat} (h : n < 2147483648) : (nI n).toNatClampNeg = n ∧ (nI n).toInt = n := ⟨nI_clamp h, nI_toInt h⟩
theorem bt_setV (ro : Nat → Int32) (r : Int32) (n : Nat) (hn : n ≤ 31) {i : Nat} (hi : i < 32) : bt (setV ro r n) i = decide (i < n ∧ (ro i).toInt = r.toInt) := by
  induction n with
  | zero => rw [show setV ro r 0 = 0 from rfl, b_0]; simp
  | succ n ih =>
    have ih := ih (by omega)
    have hc := nI_cl (n := n) (by omega)
    rw [setV_s]
    by_cases c : (ro n).toInt = r.toInt
    · rw [if_pos c, bt_set (by omega) (by omega) hi, ih, hc.1]
      by_cases e : i = n
      · subst e; simp [c]
      · by_cases l : i < n
        · simp [e, show i < n + 1 by omega, l]
        · simp [e, l, show ¬ i < n + 1 by omega]
    · rw [if_neg c, ih]
      by_cases e : i = n
      · subst e; simp [c]
      · by_cases l : i < n
        · simp [show i < n + 1 by omega, l]
        · simp [l, show ¬ i < n + 1 by omega]
theorem hb_bt {x : Int32} {n : Nat} (hn : n < 32) : hbP x (nI n) ↔ bt x n = true := by
  have h0 : bt ((x.toUInt32 >>> ((nI n).toUInt32 &&& Int32.toUInt32 31)).toInt32 &&& 1) 0 = bt x n := by
    rw [b_and, b_ushr n hn, bt_1 0 (by omega)]
    simp
  unfold hbP
  constructor
  · intro h
    cases e : bt x n with
    | true => rfl
    | false =>
      exfalso
      apply h
      apply b_ext
      intro i hi
      rw [b_0]
      by_cases e0 : i = 0
      · subst e0; rw [h0, e]
      · rw [b_and, bt_1 i hi]; simp [e0]
  · intro h q
    rw [q, b_0] at h0
    rw [h] at h0
    cases h0
theorem woV_ins (ro wo : Nat → Int32) (r : Int32) (N : Nat) (hN : N ≤ 31) (n : Nat) (hn : n ≤ N) : woV wo (setV ro r N) n = insV ro wo r 1 n := by
  induction n with
  | zero => rfl
  | succ n ih =>
    rw [woV_s, insV_s, ih (by omega)]
    have h := hb_bt (x := setV ro r N) (n := n) (by omega)
    rw [bt_setV ro r N hN (by omega)] at h
    by_cases c : (ro n).toInt = r.toInt
    · rw [if_pos (h.mpr (by simp [c]; omega)), if_neg (by omega), if_neg (by decide), if_pos (by decide)]
    · rw [if_neg (fun q => by have := h.mp q; simp [c] at this), if_pos c]
      exact (Int32.add_zero _).symm
theorem add_or {x y : Int32} (h : x &&& y = 0) : x + y = x ||| y := by
  apply Int32.toBitVec_inj.mp
  rw [Int32.toBitVec_add, Int32.toBitVec_or]
  apply BitVec.add_eq_or_of_and_eq_zero
  rw [← Int32.toBitVec_and, h]
  rfl
theorem setV_ins (ro wo : Nat → Int32) (r w : Int32) (hw : ¬ w.toInt = 0 ∧ ¬ w.toInt = 1) (n : Nat) (hn : n ≤ 31) : setV ro r n = insV ro wo r w n := by
  induction n with
  | zero => rfl
  | succ n ih =>
    have hc := nI_cl (n := n) (by omega)
    rw [setV_s, insV_s, ← ih (by omega)]
    by_cases c : (ro n).toInt = r.toInt
    · rw [if_pos c, if_neg (by omega), if_neg hw.1, if_neg hw.2]
      refine (add_or ?_).symm
      apply b_ext
      intro i hi
      rw [b_and, b_0, bt_setV ro r n (by omega) hi, bt_shl (by omega) (by omega) hi, hc.1]
      by_cases e : i = n
      · subst e; simp
      · simp [e]
    · rw [if_neg c, if_pos c]
      exact (Int32.add_zero _).symm
/-- the bits of a number, counted one by one -/
def popN : Nat → Nat → Nat
  | 0, _ => 0
  | m + 1, k => popN m k + (if k.testBit m then 1 else 0)
theorem nI_tn (x : Int32) : nI x.toBitVec.toNat = x := Int32.toBitVec_inj.mp (BitVec.eq_of_toNat_eq (pk_tn x.toBitVec.isLt))
theorem tn_us (x s : Int32) (k : Nat) (hs : ((s.toUInt32 &&& Int32.toUInt32 31).toBitVec % 32).toNat = k) : (us32 x s).toBitVec.toNat = x.toBitVec.toNat / 2 ^ k := by
  have hx := x.toBitVec.isLt
  have e : us32 x s = us32 (nI x.toBitVec.toNat) s := by rw [nI_tn]
  rw [e]
  unfold us32
  rw [pk_ushrN hx s k hs, pk_tn (Nat.lt_of_le_of_lt (Nat.div_le_self _ _) hx)]
def bcN (k : Nat) : Nat :=
  let a := (4294967296 - ((k / 2) &&& 1431655765) + k) % 4294967296
  let b := ((a &&& 858993459) + ((a / 4) &&& 858993459)) % 4294967296
  let c := ((b + b / 16) % 4294967296) &&& 252645135
  let d := (c + c / 256) % 4294967296
  let e := (d + d / 65536) % 4294967296
  e &&& 63
theorem tn_add (x y : Int32) : (x + y).toBitVec.toNat = (x.toBitVec.toNat + y.toBitVec.toNat) % 4294967296 := by rw [Int32.toBitVec_add, BitVec.toNat_add]
theorem tn_sub (x y : Int32) : (x - y).toBitVec.toNat = (4294967296 - y.toBitVec.toNat + x.toBitVec.toNat) % 4294967296 := by rw [Int32.toBitVec_sub, BitVec.toNat_sub]
theorem tn_and (x y : Int32) : (x &&& y).toBitVec.toNat = x.toBitVec.toNat &&& y.toBitVec.toNat := by rw [Int32.toBitVec_and, BitVec.toNat_and]
theorem bcf_tn (x : Int32) : (bcf x).toBitVec.toNat = bcN x.toBitVec.toNat := by
  unfold bcf bc5 bc4 bc3 bc2 bc1
  simp only [tn_and, tn_add, tn_sub, tn_us _ 1 1 (by decide), tn_us _ 2 2 (by decide), tn_us _ 4 4 (by decide), tn_us _ 8 8 (by decide), tn_us _ 16 16 (by decide)]
  rfl
set_option maxRecDepth 100000 in
theorem bcN_pop : ∀ a, a < 64 → ∀ b, b < 64 → bcN (64 * a + b) = popN 12 (64 * a + b) := by decide +kernel
theorem bcf_nI {k : Nat} (h : k < 4096) : bcf (nI k) = nI (popN 12 k) := by
  have := bcN_pop (k / 64) (by omega) (k % 64) (by omega)
  rw [show 64 * (k / 64) + k % 64 = k by omega] at this
  rw [← this, ← nI_tn (bcf (nI k)), bcf_tn, pk_tn (by omega)]
theorem bt_nI {k i : Nat} (h : k < 4096) (hi : i < 32) : bt (nI k) i = k.testBit i := by
  show (nI k).toBitVec.getLsbD i = _
  rw [← BitVec.testBit_toNat, pk_tn (by omega)]
/-- how many crates are in the room -/
def cntV (ro : Nat → Int32) (r : Int32) : Nat → Nat
  | 0 => 0
  | n + 1 => cntV ro r n + (if (ro n).toInt = r.toInt then 1 else 0)
theorem cntV_le (ro : Nat → Int32) (r : Int32) (n : Nat) : cntV ro r n ≤ n := by
  induction n with
  | zero => exact Nat.le_refl _
  | succ n ih => unfold cntV; split <;> omega
theorem ins0_cnt (ro wo : Nat → Int32) (r : Int32) (n : Nat) (hn : n ≤ 12) : insV ro wo r 0 n = nI (cntV ro r n) := by
  induction n with
  | zero => rfl
  | succ n ih =>
    have hl := cntV_le ro r n
    rw [insV_s, ih (by omega)]
    show _ = nI (cntV ro r n + (if (ro n).toInt = r.toInt then 1 else 0))
    by_cases c : (ro n).toInt = r.toInt
    · rw [if_neg (by omega), if_pos (by decide), if_pos c]
      unfold nI
      rw [Int32.ofNat_add]
      rfl
    · rw [if_pos c, if_neg c]
      exact Int32.add_zero _
theorem pop_set {ro : Nat → Int32} {r : Int32} {k n : Nat} (hk : ∀ i, i < 12 → k.testBit i = decide (i < n ∧ (ro i).toInt = r.toInt)) (m : Nat) (hm : m ≤ 12) : popN m k = cntV ro r (min m n) := by
  induction m with
  | zero => rw [Nat.zero_min]; rfl
  | succ m ih =>
    unfold popN
    rw [ih (by omega), hk m (by omega)]
    by_cases l : m < n
    · rw [show min (m + 1) n = m + 1 by omega, show min m n = m by omega]
      show _ = cntV ro r m + _
      by_cases c : (ro m).toInt = r.toInt
      · simp [l, c]
      · simp [c]
    · rw [show min (m + 1) n = n by omega, show min m n = n by omega]
      simp [l]
theorem bcf_ins (ro wo : Nat → Int32) (r : Int32) (n : Nat) (hn : n ≤ 12) : bcf (setV ro r n) = insV ro wo r 0 n := by
  have hb := fun i (hi : i < 32) => bt_setV ro r n (by omega) hi
  obtain ⟨k, hk, e⟩ : ∃ k, k < 4096 ∧ setV ro r n = nI k := by
    refine ⟨(setV ro r n).toBitVec.toNat % 4096, Nat.mod_lt _ (by omega), b_ext fun i hi => ?_⟩
    rw [bt_nI (Nat.mod_lt _ (by omega)) hi, show (4096 : Nat) = 2 ^ 12 from rfl, Nat.testBit_mod_two_pow]
    show bt (setV ro r n) i = _
    by_cases l : i < 12
    · simp only [l, decide_true, Bool.true_and]; rfl
    · rw [hb i hi]
      simp [l, show ¬ i < n by omega]
  rw [e, bcf_nI hk, ins0_cnt ro wo r n hn, pop_set (ro := ro) (r := r) (n := n) (fun i hi => by rw [← bt_nI hk (by omega), ← e]; exact hb i (by omega)) 12 (by omega), show min 12 n = n by omega]
theorem move_eq {cn k q : Int32} {wo ro aw iw : Nat → Int32} (h0 : 0 ≤ cn.toInt) (h1 : cn.toInt ≤ 12) : sp_move cn wo ro aw iw k q = sm_move cn wo ro aw iw k q := by
  have hc := i_cl h0
  unfold sp_move sm_move
  rw [bcf_ins ro wo q _ (by omega), woV_ins ro wo q _ (by omega) _ (Nat.le_refl _)]
theorem inside_eq {cn q w : Int32} {wo ro : Nat → Int32} (h0 : 0 ≤ cn.toInt) (h1 : cn.toInt ≤ 12) : sp_inside cn wo ro q w = sm_inside cn wo ro q w := by
  have hc := i_cl h0
  unfold sp_inside sm_inside
  split
  · split
    · rename_i c
      rw [bcf_ins ro wo q _ (by omega), show w = 0 from Int32.toInt_inj.mp c]
    · split
      · rename_i c
        rw [woV_ins ro wo q _ (by omega) _ (Nat.le_refl _), show w = 1 from Int32.toInt_inj.mp c]
      · rename_i c1 c2
        exact setV_ins ro wo q w ⟨c1, c2⟩ _ (by omega)
  · rfl


/-- the days of the holdings -/
def okD (hn : Int32) (hs : Nat → Int32) : Prop := ∀ j : Nat, (j : Int) < hn.toInt → 0 ≤ (hs j).toInt
theorem sp_hold_okD {hn : Int32} {ho hc hp hs : Nat → Int32} {o k q d r hn' : Int32} {ho' hc' hp' hs' : Nat → Int32} (e : (r, hn', ho', hc', hp', hs') = sp_hold hn ho hc hp hs o k q d) (h1 : 0 ≤ hn.toInt) (h2 : hn.toInt ≤ 40) (h3 : okD hn hs) : okD hn' hs' := by
  unfold sp_hold at e
  have ch := i_cl h1
  split at e
  · split at e
    · simp only [Prod.mk.injEq] at e
      obtain ⟨-, rfl, -, -, -, rfl⟩ := e
      exact h3
    · rename_i g1 g2
      have k1 : (1 : Int32).toInt = 1 := rfl
      have t1 : (hn + 1).toInt = hn.toInt + 1 := by rw [i_add (by omega) (by omega), k1]
      simp only [Prod.mk.injEq] at e
      obtain ⟨-, rfl, -, -, -, rfl⟩ := e
      intro j hj
      by_cases hk : j = hn.toNatClampNeg
      · subst hk; rw [upd_s]; omega
      · rw [upd_n _ _ hk]; exact h3 j (by omega)
  · simp only [Prod.mk.injEq] at e
    obtain ⟨-, rfl, -, -, -, rfl⟩ := e
    exact h3
theorem foldH_okD {it : Nat → Int32} {i : Nat} {hn : Int32} {ho hc hp hs : Nat → Int32} (h1 : 0 ≤ hn.toInt) (h2 : hn.toInt ≤ 40) (h3 : okH hn ho hc) (h4 : okD hn hs) (k : Nat) : 0 ≤ (foldH it i hn ho hc hp hs k).2.1.toInt ∧ (foldH it i hn ho hc hp hs k).2.1.toInt ≤ 40 ∧ okH (foldH it i hn ho hc hp hs k).2.1 (foldH it i hn ho hc hp hs k).2.2.1 (foldH it i hn ho hc hp hs k).2.2.2.1 ∧ okD (foldH it i hn ho hc hp hs k).2.1 (foldH it i hn ho hc hp hs k).2.2.2.2.2 := by
  induction k with
  | zero => exact ⟨h1, h2, h3, h4⟩
  | succ k ih =>
    obtain ⟨a1, a2, a3, a4⟩ := ih
    have e : ∀ F : Int32 × Int32 × (Nat → Int32) × (Nat → Int32) × (Nat → Int32) × (Nat → Int32), F = (F.1, F.2.1, F.2.2.1, F.2.2.2.1, F.2.2.2.2.1, F.2.2.2.2.2) := fun F => rfl
    have o1 := sp_hold_ok (e (sp_hold (foldH it i hn ho hc hp hs k).2.1 (foldH it i hn ho hc hp hs k).2.2.1 (foldH it i hn ho hc hp hs k).2.2.2.1 (foldH it i hn ho hc hp hs k).2.2.2.2.1 (foldH it i hn ho hc hp hs k).2.2.2.2.2 (it (i + 4 * k)) (it (i + 4 * k + 1)) (it (i + 4 * k + 2)) (it (i + 4 * k + 3)))).symm a1 a2 a3
    have o2 := sp_hold_okD (e (sp_hold (foldH it i hn ho hc hp hs k).2.1 (foldH it i hn ho hc hp hs k).2.2.1 (foldH it i hn ho hc hp hs k).2.2.2.1 (foldH it i hn ho hc hp hs k).2.2.2.2.1 (foldH it i hn ho hc hp hs k).2.2.2.2.2 (it (i + 4 * k)) (it (i + 4 * k + 1)) (it (i + 4 * k + 2)) (it (i + 4 * k + 3)))).symm a1 a2 a4
    exact ⟨o1.1, o1.2.1, o1.2.2, o2⟩
theorem sp_holds_okD {lf lf' a i n hn r hn' : Int32} {ss ho hc hp hs ho' hc' hp' hs' : Nat → Int32} {rs : Nat → Nat → Int32} (x : (r, lf', hn', ho', hc', hp', hs') = sp_holds lf rs ss hn ho hc hp hs a i n) (h1 : 0 ≤ hn.toInt) (h2 : hn.toInt ≤ 40) (h3 : okH hn ho hc) (h4 : okD hn hs) : okD hn' hs' := by
  unfold sp_holds at x
  have hf := foldH_okD (it := rs a.toNatClampNeg) (i := i.toNatClampNeg) (hp := hp) h1 h2 h3 h4 n.toNatClampNeg
  generalize foldH (rs a.toNatClampNeg) i.toNatClampNeg hn ho hc hp hs n.toNatClampNeg = F at x hf
  obtain ⟨F1, F2, F3, F4, F5, F6⟩ := F
  split at x
  · split at x
    · simp only [Prod.mk.injEq] at x
      obtain ⟨-, -, rfl, -, -, -, rfl⟩ := x
      exact h4
    · split at x
      · simp only [Prod.mk.injEq] at x
        obtain ⟨-, -, rfl, -, -, -, rfl⟩ := x
        exact hf.2.2.2
      · simp only [Prod.mk.injEq] at x
        obtain ⟨-, -, rfl, -, -, -, rfl⟩ := x
        exact h4
  · simp only [Prod.mk.injEq] at x
    obtain ⟨-, -, rfl, -, -, -, rfl⟩ := x
    exact h4
/-- no company has a part of itself -/
def okN (hn : Int32) (ho hc : Nat → Int32) : Prop := ∀ j : Nat, (j : Int) < hn.toInt → ¬ (ho j).toInt = (hc j).toInt
theorem sp_hold_okVN {hn : Int32} {ho hc hp hs : Nat → Int32} {o k q d r hn' : Int32} {ho' hc' hp' hs' : Nat → Int32} (e : (r, hn', ho', hc', hp', hs') = sp_hold hn ho hc hp hs o k q d) (h1 : 0 ≤ hn.toInt) (h2 : hn.toInt ≤ 40) (h3 : okV hn hp ∧ okN hn ho hc) : okV hn' hp' ∧ okN hn' ho' hc' := by
  unfold sp_hold at e
  have ch := i_cl h1
  split at e
  · split at e
    · simp only [Prod.mk.injEq] at e
      obtain ⟨-, rfl, rfl, rfl, rfl, -⟩ := e
      exact h3
    · rename_i g1 g2
      have k1 : (1 : Int32).toInt = 1 := rfl
      have t1 : (hn + 1).toInt = hn.toInt + 1 := by rw [i_add (by omega) (by omega), k1]
      simp only [Prod.mk.injEq] at e
      obtain ⟨-, rfl, rfl, rfl, rfl, -⟩ := e
      refine ⟨fun j hj => ?_, fun j hj => ?_⟩
      · by_cases hk : j = hn.toNatClampNeg
        · subst hk; rw [upd_s]; omega
        · rw [upd_n _ _ hk]; exact h3.1 j (by omega)
      · by_cases hk : j = hn.toNatClampNeg
        · subst hk; rw [upd_s, upd_s]; omega
        · rw [upd_n _ _ hk, upd_n _ _ hk]; exact h3.2 j (by omega)
  · simp only [Prod.mk.injEq] at e
    obtain ⟨-, rfl, rfl, rfl, rfl, -⟩ := e
    exact h3
theorem foldH_okVN {it : Nat → Int32} {i : Nat} {hn : Int32} {ho hc hp hs : Nat → Int32} (h1 : 0 ≤ hn.toInt) (h2 : hn.toInt ≤ 40) (h3 : okH hn ho hc) (h4 : okD hn hs) (h5 : okV hn hp ∧ okN hn ho hc) (k : Nat) : okV (foldH it i hn ho hc hp hs k).2.1 (foldH it i hn ho hc hp hs k).2.2.2.2.1 ∧ okN (foldH it i hn ho hc hp hs k).2.1 (foldH it i hn ho hc hp hs k).2.2.1 (foldH it i hn ho hc hp hs k).2.2.2.1 := by
  induction k with
  | zero => exact h5
  | succ k ih =>
    have a := foldH_okD (it := it) (i := i) (hp := hp) h1 h2 h3 h4 k
    have e : ∀ F : Int32 × Int32 × (Nat → Int32) × (Nat → Int32) × (Nat → Int32) × (Nat → Int32), F = (F.1, F.2.1, F.2.2.1, F.2.2.2.1, F.2.2.2.2.1, F.2.2.2.2.2) := fun F => rfl
    exact sp_hold_okVN (e (sp_hold (foldH it i hn ho hc hp hs k).2.1 (foldH it i hn ho hc hp hs k).2.2.1 (foldH it i hn ho hc hp hs k).2.2.2.1 (foldH it i hn ho hc hp hs k).2.2.2.2.1 (foldH it i hn ho hc hp hs k).2.2.2.2.2 (it (i + 4 * k)) (it (i + 4 * k + 1)) (it (i + 4 * k + 2)) (it (i + 4 * k + 3)))).symm a.1 a.2.1 ih
theorem sp_holds_okVN {lf lf' a i n hn r hn' : Int32} {ss ho hc hp hs ho' hc' hp' hs' : Nat → Int32} {rs : Nat → Nat → Int32} (x : (r, lf', hn', ho', hc', hp', hs') = sp_holds lf rs ss hn ho hc hp hs a i n) (h1 : 0 ≤ hn.toInt) (h2 : hn.toInt ≤ 40) (h3 : okH hn ho hc) (h4 : okD hn hs) (h5 : okV hn hp ∧ okN hn ho hc) : okV hn' hp' ∧ okN hn' ho' hc' := by
  unfold sp_holds at x
  have hf := foldH_okVN (it := rs a.toNatClampNeg) (i := i.toNatClampNeg) h1 h2 h3 h4 h5 n.toNatClampNeg
  generalize foldH (rs a.toNatClampNeg) i.toNatClampNeg hn ho hc hp hs n.toNatClampNeg = F at x hf
  obtain ⟨F1, F2, F3, F4, F5, F6⟩ := F
  split at x
  · split at x
    · simp only [Prod.mk.injEq] at x
      obtain ⟨-, -, rfl, rfl, rfl, rfl, -⟩ := x
      exact h5
    · split at x
      · simp only [Prod.mk.injEq] at x
        obtain ⟨-, -, rfl, rfl, rfl, rfl, -⟩ := x
        exact hf
      · simp only [Prod.mk.injEq] at x
        obtain ⟨-, -, rfl, rfl, rfl, rfl, -⟩ := x
        exact h5
  · simp only [Prod.mk.injEq] at x
    obtain ⟨-, -, rfl, rfl, rfl, rfl, -⟩ := x
    exact h5
theorem pc_bs {ho hc hp hs : Nat → Int32} {d o c : Int32} (n : Nat) (hn : n ≤ 40) (hd : ∀ j, j < n → 0 ≤ (hs j).toInt) : ((bsV ho hc hs d o c n).toInt = -1000000 ∧ pcV ho hc hp hs d o c n = (0, 0)) ∨ (0 ≤ (bsV ho hc hs d o c n).toInt ∧ pcV ho hc hp hs d o c n = (hp (bsV ho hc hs d o c n).toNatClampNeg, hs (bsV ho hc hs d o c n).toNatClampNeg)) := by
  induction n with
  | zero => exact Or.inl ⟨rfl, rfl⟩
  | succ n ih =>
    have ih := ih (by omega) (fun j hj => hd j (by omega))
    have h0 := hd n (by omega)
    have hc9 := nI_cl (n := n) (by omega)
    have k0 : (0 : Int32).toInt = 0 := rfl
    rw [bsV_s, pcV_s]
    rcases ih with ⟨b1, b2⟩ | ⟨b1, b2⟩
    · rw [b2]
      by_cases q : (ho n).toInt = o.toInt ∧ (hc n).toInt = c.toInt ∧ (hs n).toInt ≤ d.toInt
      · rw [if_pos ⟨q.1, q.2.1, q.2.2, Or.inl b1⟩, if_pos ⟨q.1, q.2.1, q.2.2, by show (0 : Int32).toInt ≤ _; omega⟩, hc9.1]
        exact Or.inr ⟨by omega, rfl⟩
      · rw [if_neg (fun z => q ⟨z.1, z.2.1, z.2.2.1⟩), if_neg (fun z => q ⟨z.1, z.2.1, z.2.2.1⟩)]
        exact Or.inl ⟨b1, rfl⟩
    · rw [b2]
      by_cases q : (ho n).toInt = o.toInt ∧ (hc n).toInt = c.toInt ∧ (hs n).toInt ≤ d.toInt ∧ (hs (bsV ho hc hs d o c n).toNatClampNeg).toInt ≤ (hs n).toInt
      · rw [if_pos ⟨q.1, q.2.1, q.2.2.1, Or.inr q.2.2.2⟩, if_pos q, hc9.1]
        exact Or.inr ⟨by omega, rfl⟩
      · rw [if_neg (fun z => q ⟨z.1, z.2.1, z.2.2.1, by rcases z.2.2.2 with z | z <;> omega⟩), if_neg q]
        exact Or.inr ⟨b1, rfl⟩
theorem pm_pc {ho hc hp hs : Nat → Int32} {d o c : Int32} (n : Nat) (hn : n ≤ 40) (hd : ∀ j, j < n → 0 ≤ (hs j).toInt) : pmV ho hc hp hs d o c n = (pcV ho hc hp hs d o c n).1 := by
  unfold pmV
  rcases pc_bs (ho := ho) (hc := hc) (hp := hp) (d := d) (o := o) (c := c) n hn hd with ⟨b1, b2⟩ | ⟨b1, b2⟩
  · rw [if_pos b1, b2]
  · rw [if_neg (by omega), b2]
theorem percent_eq {hn o k d : Int32} {ho hc hp hs : Nat → Int32} (h1 : 0 ≤ hn.toInt) (h2 : hn.toInt ≤ 40) (h3 : okD hn hs) : sp_percent hn ho hc hp hs o k d = sm_percent hn ho hc hp hs o k d := by
  have ch := i_cl h1
  unfold sp_percent sm_percent
  rw [pm_pc _ (by omega) (fun j hj => h3 j (by omega))]


/-- the marks of the openings -/
def okU (un : Int32) (um : Nat → Int32) : Prop := ∀ j : Nat, (j : Int) < un.toInt → 0 ≤ (um j).toInt ∧ (um j).toInt ≤ 255
theorem sp_opened_okU {un un' cn k d w q r : Int32} {uk uy uw um uk' uy' uw' um' : Nat → Int32} (e : (r, un', uk', uy', uw', um') = sp_opened un uk uy uw um cn k d w q) (h1 : 0 ≤ un.toInt) (h2 : un.toInt ≤ 60) (h3 : okU un um) : okU un' um' := by
  unfold sp_opened at e
  have ch := i_cl h1
  split at e
  · split at e
    · simp only [Prod.mk.injEq] at e
      obtain ⟨-, rfl, -, -, -, rfl⟩ := e
      exact h3
    · rename_i g1 g2
      have k1 : (1 : Int32).toInt = 1 := rfl
      have t1 : (un + 1).toInt = un.toInt + 1 := by rw [i_add (by omega) (by omega), k1]
      simp only [Prod.mk.injEq] at e
      obtain ⟨-, rfl, -, -, -, rfl⟩ := e
      intro j hj
      by_cases hk : j = un.toNatClampNeg
      · subst hk; rw [upd_s]; omega
      · rw [upd_n _ _ hk]; exact h3 j (by omega)
  · simp only [Prod.mk.injEq] at e
    obtain ⟨-, rfl, -, -, -, rfl⟩ := e
    exact h3
theorem fi_on (uk uy : Nat → Int32) (k : Int32) (n : Nat) (hn : n ≤ 60) : ((fiV uk uy k n).toInt = -1 ∧ (onV uk uy k n).toInt = -1000000 ∧ ∀ j, j < n → ¬ (uk j).toInt = k.toInt) ∨ (fiV uk uy k n = onV uk uy k n ∧ 0 ≤ (fiV uk uy k n).toInt ∧ (fiV uk uy k n).toInt < n) := by
  induction n with
  | zero => exact Or.inl ⟨rfl, rfl, fun j hj => absurd hj (by omega)⟩
  | succ n ih =>
    have ih := ih (by omega)
    have hc := nI_cl (n := n) (by omega)
    rw [fiV_s, onV_s]
    by_cases c : (uk n).toInt = k.toInt
    · rcases ih with ⟨a1, a2, a3⟩ | ⟨a1, a2, a3⟩
      · rw [if_pos ⟨c, Or.inl (by omega)⟩, if_pos ⟨c, Or.inl a2⟩]
        exact Or.inr ⟨rfl, by omega, by omega⟩
      · rw [← a1]
        by_cases q : (uy n).toInt < (uy (fiV uk uy k n).toNatClampNeg).toInt
        · rw [if_pos ⟨c, Or.inr q⟩, if_pos ⟨c, Or.inr q⟩]
          exact Or.inr ⟨rfl, by omega, by omega⟩
        · rw [if_neg (fun z => by rcases z.2 with z | z <;> omega), if_neg (fun z => by rcases z.2 with z | z <;> omega)]
          exact Or.inr ⟨rfl, by omega, by omega⟩
    · rw [if_neg (fun z => c z.1), if_neg (fun z => c z.1)]
      rcases ih with ⟨a1, a2, a3⟩ | ⟨a1, a2, a3⟩
      · refine Or.inl ⟨a1, a2, fun j hj => ?_⟩
        by_cases e : j = n
        · rw [e]; exact c
        · exact a3 j (by omega)
      · exact Or.inr ⟨a1, a2, by omega⟩
theorem bm_bc : ∀ k, k < 256 → bmV (nI k) 12 = bcf (nI k) := by decide +kernel
theorem bc_nn : ∀ k, k < 256 → 0 ≤ (bcf (nI k)).toInt := by decide +kernel
theorem and255 {x : Int32} (y : Int32) (h0 : 0 ≤ x.toInt) (h1 : x.toInt ≤ 255) : ∃ k, k < 256 ∧ x &&& y = nI k := by
  have hc := i_cl h0
  have e : (nI x.toNatClampNeg).toBitVec.toNat = x.toNatClampNeg := pk_tn (by omega)
  rw [i_nI h0] at e
  have h2 := Nat.and_le_left (n := x.toBitVec.toNat) (m := y.toBitVec.toNat)
  exact ⟨(x &&& y).toBitVec.toNat, by rw [tn_and]; omega, (nI_tn _).symm⟩
theorem cv_cm {far mis : Int32} (h : 0 ≤ mis.toInt) : cvF far mis = cmF far mis := by
  unfold cvF cmF
  (repeat' split) <;> first | rfl | (exfalso; omega)
theorem and_not (m : Int32) : m &&& (m ^^^ (-1)) = 0 := by
  apply b_ext
  intro i hi
  rw [b_and, b_xor, b_m1 i hi, b_0]
  cases bt m i <;> rfl
theorem cm_self (uw um : Nat → Int32) (f : Nat) : cmV uw um f f = 0 := by
  unfold cmV
  rw [Int32.sub_self, and_not]
  decide +kernel
theorem cmF_rng (a b : Int32) : 0 ≤ (cmF a b).toInt := by
  unfold cmF
  (repeat' split) <;> decide
theorem wrsV_rng (uk uw um : Nat → Int32) (k : Int32) (f n : Nat) : 0 ≤ (wrsV uk uw um k f n).toInt := by
  induction n with
  | zero => exact (by decide : (0 : Int) ≤ (0 : Int32).toInt)
  | succ n ih =>
    rw [wrsV_s]
    split
    · have h9 := cmF_rng (absV (uw n - uw f)) (bcf (um f &&& (um n ^^^ (-1))))
      unfold maxV
      split
      · exact h9
      · exact ih
    · exact ih
theorem ws_wm {uk uw um : Nat → Int32} {k o : Int32} {N : Nat} (h0 : 0 ≤ o.toInt) (h1 : o.toInt < N) (hu : ∀ j, j < N → 0 ≤ (um j).toInt ∧ (um j).toInt ≤ 255) (n : Nat) (hn : n ≤ N) : wrsV uk uw um k o.toNatClampNeg n = wmV uk uw um k o n := by
  have hc := i_cl h0
  induction n with
  | zero => rfl
  | succ n ih =>
    have ih := ih (by omega)
    rw [wrsV_s, wmV_s, ← ih]
    by_cases c : (uk n).toInt = k.toInt
    · rw [if_pos c]
      by_cases e : n = o.toNatClampNeg
      · rw [if_neg (by omega), e, cm_self]
        exact (maxV_f (by have h9 := wrsV_rng uk uw um k o.toNatClampNeg o.toNatClampNeg; have k0 : (0 : Int32).toInt = 0 := rfl; omega)).symm
      · rw [if_pos ⟨c, by omega⟩]
        obtain ⟨b, hb, eb⟩ := and255 (x := um o.toNatClampNeg) (um n ^^^ (-1)) (hu _ (by omega)).1 (hu _ (by omega)).2
        unfold cmV
        rw [eb, bm_bc b hb, cv_cm (bc_nn b hb)]
    · rw [if_neg c, if_neg (fun z => c z.1)]
theorem wm_0 {uk uw um : Nat → Int32} {k o : Int32} (n : Nat) (h : ∀ j, j < n → ¬ (uk j).toInt = k.toInt) : wmV uk uw um k o n = 0 := by
  induction n with
  | zero => rfl
  | succ n ih =>
    rw [wmV_s, if_neg (fun z => h n (by omega) z.1)]
    exact ih (fun j hj => h j (by omega))
theorem verdict_eq {cn un k : Int32} {uk uy uw um : Nat → Int32} (h0 : 0 ≤ un.toInt) (h1 : un.toInt ≤ 60) (hu : okU un um) : sp_verdict cn un uk uy uw um k = sm_verdict cn un uk uy uw um k := by
  have cu := i_cl h0
  unfold sp_verdict sm_verdict vdV
  rcases fi_on uk uy k un.toNatClampNeg (by omega) with ⟨a1, a2, a3⟩ | ⟨a1, a2, a3⟩
  · rw [if_pos (show (fiV uk uy k un.toNatClampNeg).toInt < 0 by omega), wm_0 _ a3]
  · rw [if_neg (show ¬ (fiV uk uy k un.toNatClampNeg).toInt < 0 by omega), ← a1, ws_wm (N := un.toNatClampNeg) a2 (by omega) (fun j hj => hu j (by omega)) _ (Nat.le_refl _)]
