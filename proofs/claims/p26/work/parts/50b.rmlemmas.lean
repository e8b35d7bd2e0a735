
theorem nI_cl {n : Nat} (h : n < 2147483648) : (nI n).toNatClampNeg = n ∧ (nI n).toInt = n := ⟨nI_clamp h, nI_toInt h⟩
theorem bt_setV (ro : Nat → Int32) (r : Int32) (n : Nat) (hn : n ≤ 31) {i : Nat} (hi : i < 32) : bt (setV ro r n) i = decide (i < n ∧ (ro i).toInt = r.toInt) := by
  induction n with
  | zero => rw [show setV ro r 0 = 0 from rfl, b_0]; simp
  | succ n ih =>
    have ih := ih (by omega)
    have hc := nI_cl (n := n) (by omega)
    rw [setV_s]
    by_cases c : (ro n).toInt = r.toInt
    · rw [if_pos c, bt_set (by omega) (by omega) hi, ih, hc.1]
      by_cases e : i = n
      · subst e; simp [c]
      · by_cases l : i < n
        · simp [e, show i < n + 1 by omega, l]
        · simp [e, l, show ¬ i < n + 1 by omega]
    · rw [if_neg c, ih]
      by_cases e : i = n
      · subst e; simp [c]
      · by_cases l : i < n
        · simp [show i < n + 1 by omega, l]
        · simp [l, show ¬ i < n + 1 by omega]
theorem hb_bt {x : Int32} {n : Nat} (hn : n < 32) : hbP x (nI n) ↔ bt x n = true := by
  have h0 : bt ((x.toUInt32 >>> ((nI n).toUInt32 &&& Int32.toUInt32 31)).toInt32 &&& 1) 0 = bt x n := by
    rw [b_and, b_ushr n hn, bt_1 0 (by omega)]
    simp
  unfold hbP
  constructor
  · intro h
    cases e : bt x n with
    | true => rfl
    | false =>
      exfalso
      apply h
      apply b_ext
      intro i hi
      rw [b_0]
      by_cases e0 : i = 0
      · subst e0; rw [h0, e]
      · rw [b_and, bt_1 i hi]; simp [e0]
  · intro h q
    rw [q, b_0] at h0
    rw [h] at h0
    cases h0
theorem woV_ins (ro wo : Nat → Int32) (r : Int32) (N : Nat) (hN : N ≤ 31) (n : Nat) (hn : n ≤ N) : woV wo (setV ro r N) n = insV ro wo r 1 n := by
  induction n with
  | zero => rfl
  | succ n ih =>
    rw [woV_s, insV_s, ih (by omega)]
    have h := hb_bt (x := setV ro r N) (n := n) (by omega)
    rw [bt_setV ro r N hN (by omega)] at h
    by_cases c : (ro n).toInt = r.toInt
    · rw [if_pos (h.mpr (by simp [c]; omega)), if_neg (by omega), if_neg (by decide), if_pos (by decide)]
    · rw [if_neg (fun q => by have := h.mp q; simp [c] at this), if_pos c]
      exact (Int32.add_zero _).symm
theorem add_or {x y : Int32} (h : x &&& y = 0) : x + y = x ||| y := by
  apply Int32.toBitVec_inj.mp
  rw [Int32.toBitVec_add, Int32.toBitVec_or]
  apply BitVec.add_eq_or_of_and_eq_zero
  rw [← Int32.toBitVec_and, h]
  rfl
theorem setV_ins (ro wo : Nat → Int32) (r w : Int32) (hw : ¬ w.toInt = 0 ∧ ¬ w.toInt = 1) (n : Nat) (hn : n ≤ 31) : setV ro r n = insV ro wo r w n := by
  induction n with
  | zero => rfl
  | succ n ih =>
    have hc := nI_cl (n := n) (by omega)
    rw [setV_s, insV_s, ← ih (by omega)]
    by_cases c : (ro n).toInt = r.toInt
    · rw [if_pos c, if_neg (by omega), if_neg hw.1, if_neg hw.2]
      refine (add_or ?_).symm
      apply b_ext
      intro i hi
      rw [b_and, b_0, bt_setV ro r n (by omega) hi, bt_shl (by omega) (by omega) hi, hc.1]
      by_cases e : i = n
      · subst e; simp
      · simp [e]
    · rw [if_neg c, if_pos c]
      exact (Int32.add_zero _).symm
/-- the bits of a number, counted one by one -/
def popN : Nat → Nat → Nat
  | 0, _ => 0
  | m + 1, k => popN m k + (if k.testBit m then 1 else 0)
theorem nI_tn (x : Int32) : nI x.toBitVec.toNat = x := Int32.toBitVec_inj.mp (BitVec.eq_of_toNat_eq (pk_tn x.toBitVec.isLt))
theorem tn_us (x s : Int32) (k : Nat) (hs : ((s.toUInt32 &&& Int32.toUInt32 31).toBitVec % 32).toNat = k) : (us32 x s).toBitVec.toNat = x.toBitVec.toNat / 2 ^ k := by
  have hx := x.toBitVec.isLt
  have e : us32 x s = us32 (nI x.toBitVec.toNat) s := by rw [nI_tn]
  rw [e]
  unfold us32
  rw [pk_ushrN hx s k hs, pk_tn (Nat.lt_of_le_of_lt (Nat.div_le_self _ _) hx)]
def bcN (k : Nat) : Nat :=
  let a := (4294967296 - ((k / 2) &&& 1431655765) + k) % 4294967296
  let b := ((a &&& 858993459) + ((a / 4) &&& 858993459)) % 4294967296
  let c := ((b + b / 16) % 4294967296) &&& 252645135
  let d := (c + c / 256) % 4294967296
  let e := (d + d / 65536) % 4294967296
  e &&& 63
theorem tn_add (x y : Int32) : (x + y).toBitVec.toNat = (x.toBitVec.toNat + y.toBitVec.toNat) % 4294967296 := by rw [Int32.toBitVec_add, BitVec.toNat_add]
theorem tn_sub (x y : Int32) : (x - y).toBitVec.toNat = (4294967296 - y.toBitVec.toNat + x.toBitVec.toNat) % 4294967296 := by rw [Int32.toBitVec_sub, BitVec.toNat_sub]
theorem tn_and (x y : Int32) : (x &&& y).toBitVec.toNat = x.toBitVec.toNat &&& y.toBitVec.toNat := by rw [Int32.toBitVec_and, BitVec.toNat_and]
theorem bcf_tn (x : Int32) : (bcf x).toBitVec.toNat = bcN x.toBitVec.toNat := by
  unfold bcf bc5 bc4 bc3 bc2 bc1
  simp only [tn_and, tn_add, tn_sub, tn_us _ 1 1 (by decide), tn_us _ 2 2 (by decide), tn_us _ 4 4 (by decide), tn_us _ 8 8 (by decide), tn_us _ 16 16 (by decide)]
  rfl
set_option maxRecDepth 100000 in
theorem bcN_pop : ∀ a, a < 64 → ∀ b, b < 64 → bcN (64 * a + b) = popN 12 (64 * a + b) := by decide +kernel
theorem bcf_nI {k : Nat} (h : k < 4096) : bcf (nI k) = nI (popN 12 k) := by
  have := bcN_pop (k / 64) (by omega) (k % 64) (by omega)
  rw [show 64 * (k / 64) + k % 64 = k by omega] at this
  rw [← this, ← nI_tn (bcf (nI k)), bcf_tn, pk_tn (by omega)]
theorem bt_nI {k i : Nat} (h : k < 4096) (hi : i < 32) : bt (nI k) i = k.testBit i := by
  show (nI k).toBitVec.getLsbD i = _
  rw [← BitVec.testBit_toNat, pk_tn (by omega)]
/-- how many crates are in the room -/
def cntV (ro : Nat → Int32) (r : Int32) : Nat → Nat
  | 0 => 0
  | n + 1 => cntV ro r n + (if (ro n).toInt = r.toInt then 1 else 0)
theorem cntV_le (ro : Nat → Int32) (r : Int32) (n : Nat) : cntV ro r n ≤ n := by
  induction n with
  | zero => exact Nat.le_refl _
  | succ n ih => unfold cntV; split <;> omega
theorem ins0_cnt (ro wo : Nat → Int32) (r : Int32) (n : Nat) (hn : n ≤ 12) : insV ro wo r 0 n = nI (cntV ro r n) := by
  induction n with
  | zero => rfl
  | succ n ih =>
    have hl := cntV_le ro r n
    rw [insV_s, ih (by omega)]
    show _ = nI (cntV ro r n + (if (ro n).toInt = r.toInt then 1 else 0))
    by_cases c : (ro n).toInt = r.toInt
    · rw [if_neg (by omega), if_pos (by decide), if_pos c]
      unfold nI
      rw [Int32.ofNat_add]
      rfl
    · rw [if_pos c, if_neg c]
      exact Int32.add_zero _
theorem pop_set {ro : Nat → Int32} {r : Int32} {k n : Nat} (hk : ∀ i, i < 12 → k.testBit i = decide (i < n ∧ (ro i).toInt = r.toInt)) (m : Nat) (hm : m ≤ 12) : popN m k = cntV ro r (min m n) := by
  induction m with
  | zero => rw [Nat.zero_min]; rfl
  | succ m ih =>
    unfold popN
    rw [ih (by omega), hk m (by omega)]
    by_cases l : m < n
    · rw [show min (m + 1) n = m + 1 by omega, show min m n = m by omega]
      show _ = cntV ro r m + _
      by_cases c : (ro m).toInt = r.toInt
      · simp [l, c]
      · simp [c]
    · rw [show min (m + 1) n = n by omega, show min m n = n by omega]
      simp [l]
theorem bcf_ins (ro wo : Nat → Int32) (r : Int32) (n : Nat) (hn : n ≤ 12) : bcf (setV ro r n) = insV ro wo r 0 n := by
  have hb := fun i (hi : i < 32) => bt_setV ro r n (by omega) hi
  obtain ⟨k, hk, e⟩ : ∃ k, k < 4096 ∧ setV ro r n = nI k := by
    refine ⟨(setV ro r n).toBitVec.toNat % 4096, Nat.mod_lt _ (by omega), b_ext fun i hi => ?_⟩
    rw [bt_nI (Nat.mod_lt _ (by omega)) hi, show (4096 : Nat) = 2 ^ 12 from rfl, Nat.testBit_mod_two_pow]
    show bt (setV ro r n) i = _
    by_cases l : i < 12
    · simp only [l, decide_true, Bool.true_and]; rfl
    · rw [hb i hi]
      simp [l, show ¬ i < n by omega]
  rw [e, bcf_nI hk, ins0_cnt ro wo r n hn, pop_set (ro := ro) (r := r) (n := n) (fun i hi => by rw [← bt_nI hk (by omega), ← e]; exact hb i (by omega)) 12 (by omega), show min 12 n = n by omega]
theorem move_eq {cn k q : Int32} {wo ro aw iw : Nat → Int32} (h0 : 0 ≤ cn.toInt) (h1 : cn.toInt ≤ 12) : sp_move cn wo ro aw iw k q = sm_move cn wo ro aw iw k q := by
  have hc := i_cl h0
  unfold sp_move sm_move
  rw [bcf_ins ro wo q _ (by omega), woV_ins ro wo q _ (by omega) _ (Nat.le_refl _)]
theorem inside_eq {cn q w : Int32} {wo ro : Nat → Int32} (h0 : 0 ≤ cn.toInt) (h1 : cn.toInt ≤ 12) : sp_inside cn wo ro q w = sm_inside cn wo ro q w := by
  have hc := i_cl h0
  unfold sp_inside sm_inside
  split
  · split
    · rename_i c
      rw [bcf_ins ro wo q _ (by omega), show w = 0 from Int32.toInt_inj.mp c]
    · split
      · rename_i c
        rw [woV_ins ro wo q _ (by omega) _ (Nat.le_refl _), show w = 1 from Int32.toInt_inj.mp c]
      · rename_i c1 c2
        exact setV_ins ro wo q w ⟨c1, c2⟩ _ (by omega)
  · rfl
