def bt (x : Int32) (i : Nat) : Bool := x.toBitVec.getLsbD i
theorem b_ext {x y : Int32} (h : ∀ i, i < 32 → bt x i = bt y i) : x = y := Int32.toBitVec_inj.mp (BitVec.eq_of_getLsbD_eq (fun i hi => h i hi))
theorem b_or (x y : Int32) (i : Nat) : bt (x ||| y) i = (bt x i || bt y i) := by unfold bt; rw [Int32.toBitVec_or, BitVec.getLsbD_or]
theorem b_and (x y : Int32) (i : Nat) : bt (x &&& y) i = (bt x i && bt y i) := by unfold bt; rw [Int32.toBitVec_and, BitVec.getLsbD_and]
theorem b_xor (x y : Int32) (i : Nat) : bt (x ^^^ y) i = (bt x i ^^ bt y i) := by unfold bt; rw [Int32.toBitVec_xor, BitVec.getLsbD_xor]
theorem b_big {x : Int32} {i : Nat} (h : 32 ≤ i) : bt x i = false := BitVec.getLsbD_of_ge _ _ h
theorem b_255 (i : Nat) : bt 255 i = decide (i < 8) := by
  rcases Nat.lt_or_ge i 32 with h | h
  · exact (by decide +kernel : ∀ i, i < 32 → bt 255 i = decide (i < 8)) i h
  · rw [b_big h, decide_eq_false (by omega)]
theorem b_65535 (i : Nat) : bt 65535 i = decide (i < 16) := by
  rcases Nat.lt_or_ge i 32 with h | h
  · exact (by decide +kernel : ∀ i, i < 32 → bt 65535 i = decide (i < 16)) i h
  · rw [b_big h, decide_eq_false (by omega)]
theorem b_m1 : ∀ i, i < 32 → bt (-1) i = true := by decide +kernel
theorem b_0 (i : Nat) : bt 0 i = false := BitVec.getLsbD_zero
theorem s_l : ∀ n, n < 32 → ((nI n &&& 31).toBitVec.smod 32).toNat = n := by decide +kernel
theorem s_u : ∀ n, n < 32 → (((nI n).toUInt32 &&& Int32.toUInt32 31).toBitVec % 32).toNat = n := by decide +kernel
theorem b_shl (n : Nat) (hn : n < 32) (x : Int32) {i : Nat} (hi : i < 32) : bt (x <<< (nI n &&& 31)) i = (decide (n ≤ i) && bt x (i - n)) := by
  unfold bt
  rw [Int32.toBitVec_shiftLeft]
  show (x.toBitVec <<< ((nI n &&& 31).toBitVec.smod 32).toNat).getLsbD i = _
  rw [s_l n hn, BitVec.getLsbD_shiftLeft]
  rcases Nat.lt_or_ge i n with h | h
  · simp [h, Nat.not_le.mpr h]
  · simp [hi, h, Nat.not_lt.mpr h]
theorem b_ushr (n : Nat) (hn : n < 32) (x : Int32) (i : Nat) : bt ((x.toUInt32 >>> ((nI n).toUInt32 &&& Int32.toUInt32 31)).toInt32) i = bt x (n + i) := by
  show (x.toUInt32 >>> ((nI n).toUInt32 &&& Int32.toUInt32 31)).toBitVec.getLsbD i = x.toUInt32.toBitVec.getLsbD (n + i)
  rw [UInt32.toBitVec_shiftRight]
  show (x.toUInt32.toBitVec >>> (((nI n).toUInt32 &&& Int32.toUInt32 31).toBitVec % 32).toNat).getLsbD i = _
  rw [s_u n hn, BitVec.getLsbD_ushiftRight]
theorem b_sshr (n : Nat) (hn : n < 32) (x : Int32) {i : Nat} (hi : i < 32) : bt (x >>> (nI n &&& 31)) i = if n + i < 32 then bt x (n + i) else bt x 31 := by
  unfold bt
  rw [Int32.toBitVec_shiftRight]
  show (x.toBitVec.sshiftRight ((nI n &&& 31).toBitVec.smod 32).toNat).getLsbD i = _
  rw [s_l n hn, BitVec.getLsbD_sshiftRight, BitVec.msb_eq_getLsbD_last]
  simp [hi]

theorem i_nI {x : Int32} (h : 0 ≤ x.toInt) : nI x.toNatClampNeg = x := by
  have h1 := i_rng x
  have h2 := i_cl h
  exact i_of (by rw [nI_toInt (by omega)]; exact h2)
theorem bt_1 : ∀ i, i < 32 → bt 1 i = decide (i = 0) := by decide +kernel
theorem bt_shl {c : Int32} (h0 : 0 ≤ c.toInt) (h1 : c.toInt < 32) {i : Nat} (hi : i < 32) : bt ((1 : Int32) <<< (c &&& 31)) i = decide (i = c.toNatClampNeg) := by
  have hc := i_cl h0
  have e : (1 : Int32) <<< (c &&& 31) = (1 : Int32) <<< (nI c.toNatClampNeg &&& 31) := by rw [i_nI h0]
  rw [e, b_shl c.toNatClampNeg (by omega) 1 hi]
  rcases Nat.lt_or_ge i c.toNatClampNeg with h | h
  · rw [decide_eq_false (by omega), decide_eq_false (by omega)]; rfl
  · rw [decide_eq_true h, bt_1 _ (by omega), Bool.true_and]
    by_cases g : i = c.toNatClampNeg
    · rw [decide_eq_true g, decide_eq_true (by omega)]
    · rw [decide_eq_false g, decide_eq_false (by omega)]
theorem bt_bit {x c : Int32} (h0 : 0 ≤ c.toInt) (h1 : c.toInt < 32) : ((x >>> (c &&& 31)) &&& 1) = 0 ↔ bt x c.toNatClampNeg = false := by
  have hc := i_cl h0
  have e : x >>> (c &&& 31) = x >>> (nI c.toNatClampNeg &&& 31) := by rw [i_nI h0]
  have key : bt (x >>> (c &&& 31)) 0 = bt x c.toNatClampNeg := by
    rw [e, b_sshr c.toNatClampNeg (by omega) x (by omega), if_pos (by omega), Nat.add_zero]
  rw [← key]
  constructor
  · intro h
    have h2 : bt ((x >>> (c &&& 31)) &&& 1) 0 = bt 0 0 := by rw [h]
    rw [b_and, b_0, bt_1 0 (by omega)] at h2
    simpa using h2
  · intro h
    apply b_ext
    intro i hi
    rw [b_and, b_0, bt_1 i hi]
    by_cases g : i = 0
    · rw [g, h]; rfl
    · rw [decide_eq_false g, Bool.and_false]
theorem bt_set {x c : Int32} (h0 : 0 ≤ c.toInt) (h1 : c.toInt < 32) {i : Nat} (hi : i < 32) : bt (x ||| ((1 : Int32) <<< (c &&& 31))) i = (bt x i || decide (i = c.toNatClampNeg)) := by
  rw [b_or, bt_shl h0 h1 hi]
theorem bt_clr {x c : Int32} (h0 : 0 ≤ c.toInt) (h1 : c.toInt < 32) {i : Nat} (hi : i < 32) : bt (x &&& (((1 : Int32) <<< (c &&& 31)) ^^^ (-1))) i = (bt x i && !decide (i = c.toNatClampNeg)) := by
  rw [b_and, b_xor, bt_shl h0 h1 hi, b_m1 i hi]
  cases decide (i = c.toNatClampNeg) <;> rfl
/-- how many of the bits below n are set -/
def nb (x : Int32) : Nat → Nat
  | 0 => 0
  | n + 1 => nb x n + (if bt x n = true then 1 else 0)
theorem nb_le (x : Int32) : ∀ n, nb x n ≤ n
  | 0 => Nat.le_refl _
  | n + 1 => by
    have := nb_le x n
    unfold nb
    split <;> omega
theorem nb_same {x y : Int32} : ∀ n, (∀ i, i < n → bt y i = bt x i) → nb y n = nb x n
  | 0, _ => rfl
  | n + 1, h => by
    unfold nb
    rw [nb_same n (fun i hi => h i (by omega)), h n (by omega)]
theorem nb_flip {x y : Int32} {k : Nat} (h1 : bt x k = false) (h2 : bt y k = true) : ∀ n, k < n → (∀ i, i < n → i ≠ k → bt y i = bt x i) → nb y n = nb x n + 1
  | 0, hk, _ => by omega
  | n + 1, hk, h => by
    unfold nb
    by_cases e : k = n
    · subst e
      rw [nb_same k (fun i hi => h i (by omega) (by omega)), h1, h2]
      simp
    · rw [nb_flip h1 h2 n (by omega) (fun i hi hne => h i (by omega) hne), h n (by omega) (fun q => e q.symm)]
      omega
theorem nb_0 : ∀ n, nb 0 n = 0
  | 0 => rfl
  | n + 1 => by
    unfold nb
    rw [nb_0 n, b_0]
    simp
/-- the reference's search for rows of owners: depth a, companies met, path, tried -/
def okT (a met : Int32) (mp mt : Nat → Int32) : Prop :=
  -1 ≤ a.toInt ∧ a.toInt ≤ 10 ∧ (0 ≤ a.toInt → (nb met 10 : Int) = a.toInt) ∧ (0 ≤ (mp 0).toInt ∧ (mp 0).toInt < 20) ∧
  (∀ j : Nat, 1 ≤ j → (j : Int) ≤ a.toInt → 10 ≤ (mp j).toInt ∧ (mp j).toInt < 20 ∧ bt met ((mp j).toInt - 10).toNat = true) ∧
  (∀ i j : Nat, 1 ≤ i → i < j → (j : Int) ≤ a.toInt → (mp i).toInt ≠ (mp j).toInt) ∧
  (∀ j : Nat, (j : Int) ≤ a.toInt → -1 ≤ (mt j).toInt ∧ (mt j).toInt ≤ 9)
def muT (mt : Nat → Int32) : Nat → Int
  | 0 => 0
  | n + 1 => muT mt n + (10 - (mt n).toInt) * 12 ^ (11 - n)
theorem muT_same {f g : Nat → Int32} : ∀ n, (∀ j, j < n → g j = f j) → muT g n = muT f n
  | 0, _ => rfl
  | n + 1, h => by
    unfold muT
    rw [muT_same n (fun j hj => h j (by omega)), h n (by omega)]
theorem muT_nn {f : Nat → Int32} : ∀ n, (∀ j, j < n → (f j).toInt ≤ 10) → 0 ≤ muT f n
  | 0, _ => Int.le_refl _
  | n + 1, h => by
    unfold muT
    have h1 := muT_nn n (fun j hj => h j (by omega))
    have h2 := h n (by omega)
    have h3 : (0 : Int) ≤ (10 - (f n).toInt) * 12 ^ (11 - n) := Int.mul_nonneg (by omega) (Int.le_of_lt (Int.pow_pos (by decide)))
    omega
theorem okT_pos {a met : Int32} {mp mt : Nat → Int32} (h : okT a met mp mt) : 0 ≤ muT mt (a.toInt + 1).toNat := by
  refine muT_nn _ (fun j hj => ?_)
  have := h.2.2.2.2.2.2 j (by omega)
  omega
theorem okT_0 {p : Int32} {mp mt : Nat → Int32} (h0 : 0 ≤ p.toInt) (h1 : p.toInt < 20) : okT 0 0 (upd mp ((0 : Int32).toNatClampNeg) p) (upd mt ((0 : Int32).toNatClampNeg) (-1)) := by
  have k0 : (0 : Int32).toInt = 0 := rfl
  have km : (-1 : Int32).toInt = -1 := rfl
  have c0 : (0 : Int32).toNatClampNeg = 0 := rfl
  rw [c0]
  refine ⟨by omega, by omega, fun _ => by rw [nb_0, k0]; rfl, by rw [upd_s]; omega, fun j h2 h3 => by omega, fun i j h2 h3 h4 => by omega, fun j hj => ?_⟩
  have : j = 0 := by omega
  subst this
  rw [upd_s]; omega
/-- the path's and tried's places -/
theorem okT_path {a met : Int32} {mp mt : Nat → Int32} (h : okT a met mp mt) {v i : Int32} (e : v = mp i.toNatClampNeg) (h0 : 0 ≤ i.toInt) (h1 : i.toInt ≤ a.toInt) : 0 ≤ v.toInt ∧ v.toInt < 20 ∧ (0 < i.toInt → 10 ≤ v.toInt) := by
  have hc := i_cl h0
  rw [e]
  by_cases g : i.toNatClampNeg = 0
  · rw [g]; have := h.2.2.2.1; omega
  · have := h.2.2.2.2.1 i.toNatClampNeg (by omega) (by omega); omega
theorem okT_tried {a met : Int32} {mp mt : Nat → Int32} (h : okT a met mp mt) {v i : Int32} (e : v = mt i.toNatClampNeg) (h0 : 0 ≤ i.toInt) (h1 : i.toInt ≤ a.toInt) : -1 ≤ v.toInt ∧ v.toInt ≤ 9 := by
  have hc := i_cl h0
  rw [e]
  exact h.2.2.2.2.2.2 _ (by omega)
theorem okT_stay {a met c t : Int32} {mp mt : Nat → Int32} (h : okT a met mp mt) (h0 : 0 ≤ a.toInt) (ht : t = mt a.toNatClampNeg) (hc : c.toInt = t.toInt + 1) (h9 : c.toInt ≤ 9) : okT a met mp (upd mt a.toNatClampNeg c) ∧ muT (upd mt a.toNatClampNeg c) (a.toInt + 1).toNat < muT mt (a.toInt + 1).toNat := by
  have ca := i_cl h0
  have ht2 := okT_tried h ht h0 (Int.le_refl _)
  obtain ⟨g1, g2, g3, g4, g5, g6, g7⟩ := h
  refine ⟨⟨g1, g2, g3, g4, g5, g6, fun j hj => ?_⟩, ?_⟩
  · by_cases e : j = a.toNatClampNeg
    · subst e; rw [upd_s]; omega
    · rw [upd_n _ _ e]; exact g7 j hj
  · have en : (a.toInt + 1).toNat = a.toNatClampNeg + 1 := by omega
    rw [en]
    unfold muT
    rw [upd_s, muT_same (f := mt) a.toNatClampNeg (fun j hj => upd_n _ _ (by omega)), ← ht, hc]
    have hp : (0 : Int) < 12 ^ (11 - a.toNatClampNeg) := Int.pow_pos (by decide)
    generalize (12 : Int) ^ (11 - a.toNatClampNeg) = w at hp ⊢
    have : (10 - (t.toInt + 1)) * w = (10 - t.toInt) * w - w := by rw [show (10 - (t.toInt + 1)) = (10 - t.toInt) - 1 by omega, Int.sub_mul, Int.one_mul]
    omega
theorem okT_pop {a b met met' c : Int32} {mp mt : Nat → Int32} (h : okT a met mp mt) (h0 : 0 ≤ a.toInt) (hb : b.toInt = a.toInt - 1) (hm : 0 < a.toInt → ∀ i, i < 10 → bt met' i = (bt met i && !decide (i = ((mp a.toNatClampNeg).toInt - 10).toNat))) : okT b met' mp (upd mt a.toNatClampNeg c) ∧ muT (upd mt a.toNatClampNeg c) (b.toInt + 1).toNat < muT mt (a.toInt + 1).toNat := by
  have ca := i_cl h0
  obtain ⟨g1, g2, g3, g4, g5, g6, g7⟩ := h
  refine ⟨⟨by omega, by omega, fun hb0 => ?_, g4, fun j h1 h2 => ?_, fun i j h1 h2 h3 => g6 i j h1 h2 (by omega), fun j hj => ?_⟩, ?_⟩
  · have hm := hm (by omega)
    have q := g5 a.toNatClampNeg (by omega) (by omega)
    have hk : ((mp a.toNatClampNeg).toInt - 10).toNat < 10 := by omega
    have f := nb_flip (x := met') (y := met) (k := ((mp a.toNatClampNeg).toInt - 10).toNat) (by rw [hm _ hk, q.2.2]; simp) q.2.2 10 hk (fun i hi hne => by rw [hm i hi, decide_eq_false hne]; simp)
    have := g3 h0
    omega
  · have hm := hm (by omega)
    have q := g5 j h1 (by omega)
    refine ⟨q.1, q.2.1, ?_⟩
    have qa := g5 a.toNatClampNeg (by omega) (by omega)
    have ne := g6 j a.toNatClampNeg h1 (by omega) (by omega)
    rw [hm _ (by omega), q.2.2, decide_eq_false (by omega)]; rfl
  · rw [upd_n _ _ (by omega)]; exact g7 j (by omega)
  · have eb : (b.toInt + 1).toNat = a.toNatClampNeg := by omega
    have en : (a.toInt + 1).toNat = a.toNatClampNeg + 1 := by omega
    rw [eb, en, muT_same (f := mt) a.toNatClampNeg (fun j hj => upd_n _ _ (by omega))]
    show _ < muT mt a.toNatClampNeg + (10 - (mt a.toNatClampNeg).toInt) * 12 ^ (11 - a.toNatClampNeg)
    have ht := g7 a.toNatClampNeg (by omega)
    have hp : (0 : Int) < (10 - (mt a.toNatClampNeg).toInt) * 12 ^ (11 - a.toNatClampNeg) := Int.mul_pos (by omega) (Int.pow_pos (by decide))
    omega
theorem okT_push {a b met met' c t x : Int32} {mp mt : Nat → Int32} (h : okT a met mp mt) (h0 : 0 ≤ a.toInt) (ht : t = mt a.toNatClampNeg) (hc : c.toInt = t.toInt + 1) (h9 : c.toInt ≤ 9) (hb : b.toInt = a.toInt + 1) (hf : bt met c.toNatClampNeg = false) (hm : ∀ i, i < 10 → bt met' i = (bt met i || decide (i = c.toNatClampNeg))) (hx : x.toInt = c.toInt + 10) : okT b met' (upd mp b.toNatClampNeg x) (upd (upd mt a.toNatClampNeg c) b.toNatClampNeg (-1)) ∧ muT (upd (upd mt a.toNatClampNeg c) b.toNatClampNeg (-1)) (b.toInt + 1).toNat < muT mt (a.toInt + 1).toNat := by
  have ca := i_cl h0
  have cb := i_cl (x := b) (by omega)
  have ht2 := okT_tried h ht h0 (Int.le_refl _)
  have cc := i_cl (x := c) (by omega)
  have km : (-1 : Int32).toInt = -1 := rfl
  obtain ⟨g1, g2, g3, g4, g5, g6, g7⟩ := h
  have hk : c.toNatClampNeg < 10 := by omega
  have f := nb_flip (x := met) (y := met') (k := c.toNatClampNeg) hf (by rw [hm _ hk]; simp) 10 hk (fun i hi hne => by rw [hm i hi, decide_eq_false hne]; simp)
  have hle := nb_le met' 10
  have ha := g3 h0
  have hb9 : b.toNatClampNeg = a.toNatClampNeg + 1 := by omega
  have hold : ∀ j : Nat, (j : Int) ≤ a.toInt → j ≠ b.toNatClampNeg := fun j hj => by omega
  have hnew : ∀ j : Nat, 1 ≤ j → (j : Int) ≤ a.toInt → (mp j).toInt ≠ c.toInt + 10 := by
    intro j h1 h2 e
    have q := g5 j h1 h2
    have : ((mp j).toInt - 10).toNat = c.toNatClampNeg := by omega
    rw [this, hf] at q
    exact absurd q.2.2 (by decide)
  refine ⟨⟨by omega, by omega, fun _ => by omega, ?_, fun j h1 h2 => ?_, fun i j h1 h2 h3 => ?_, fun j hj => ?_⟩, ?_⟩
  · rw [upd_n _ _ (by omega)]; exact g4
  · by_cases e : j = b.toNatClampNeg
    · subst e
      rw [upd_s]
      refine ⟨by omega, by omega, ?_⟩
      rw [hm _ (by omega), decide_eq_true (by omega)]; simp
    · rw [upd_n _ _ e]
      have q := g5 j h1 (by omega)
      refine ⟨q.1, q.2.1, ?_⟩
      rw [hm _ (by omega), q.2.2]; rfl
  · by_cases e : j = b.toNatClampNeg
    · subst e
      rw [upd_s, upd_n _ _ (by omega), hx]
      exact hnew i h1 (by omega)
    · rw [upd_n _ _ e, upd_n _ _ (by omega)]
      exact g6 i j h1 h2 (by omega)
  · by_cases e : j = b.toNatClampNeg
    · subst e; rw [upd_s]; omega
    · rw [upd_n _ _ e]
      by_cases e2 : j = a.toNatClampNeg
      · subst e2; rw [upd_s]; omega
      · rw [upd_n _ _ e2]; exact g7 j (by omega)
  · have eb : (b.toInt + 1).toNat = a.toNatClampNeg + 1 + 1 := by omega
    have en : (a.toInt + 1).toNat = a.toNatClampNeg + 1 := by omega
    rw [eb, en, hb9]
    show muT (upd (upd mt a.toNatClampNeg c) (a.toNatClampNeg + 1) (-1)) a.toNatClampNeg + (10 - (upd (upd mt a.toNatClampNeg c) (a.toNatClampNeg + 1) (-1) a.toNatClampNeg).toInt) * 12 ^ (11 - a.toNatClampNeg) + (10 - (upd (upd mt a.toNatClampNeg c) (a.toNatClampNeg + 1) (-1) (a.toNatClampNeg + 1)).toInt) * 12 ^ (11 - (a.toNatClampNeg + 1)) < muT mt a.toNatClampNeg + (10 - (mt a.toNatClampNeg).toInt) * 12 ^ (11 - a.toNatClampNeg)
    rw [upd_s, upd_n _ _ (show a.toNatClampNeg ≠ a.toNatClampNeg + 1 by omega), upd_s, muT_same (f := mt) a.toNatClampNeg (fun j hj => by rw [upd_n _ _ (by omega), upd_n _ _ (by omega)]), ← ht, km, hc]
    have hw : (12 : Int) ^ (11 - a.toNatClampNeg) = 12 ^ (11 - (a.toNatClampNeg + 1)) * 12 := by
      rw [← Int.pow_succ]
      congr 1
      omega
    have hp : (0 : Int) < 12 ^ (11 - (a.toNatClampNeg + 1)) := Int.pow_pos (by decide)
    rw [hw]
    generalize (12 : Int) ^ (11 - (a.toNatClampNeg + 1)) = w at hp ⊢
    have e1 : (10 - (t.toInt + 1)) * (w * 12) = (10 - t.toInt) * (w * 12) - w * 12 := by rw [show (10 - (t.toInt + 1)) = (10 - t.toInt) - 1 by omega, Int.sub_mul, Int.one_mul]
    omega

/-! longs by their bits -/
def btL (x : Int64) (i : Nat) : Bool := x.toBitVec.getLsbD i
theorem bL_ext {x y : Int64} (h : ∀ i, i < 64 → btL x i = btL y i) : x = y := Int64.toBitVec_inj.mp (BitVec.eq_of_getLsbD_eq (fun i hi => h i hi))
theorem bL_or (x y : Int64) (i : Nat) : btL (x ||| y) i = (btL x i || btL y i) := by unfold btL; rw [Int64.toBitVec_or, BitVec.getLsbD_or]
theorem bL_and (x y : Int64) (i : Nat) : btL (x &&& y) i = (btL x i && btL y i) := by unfold btL; rw [Int64.toBitVec_and, BitVec.getLsbD_and]
theorem bL_0 (i : Nat) : btL 0 i = false := BitVec.getLsbD_zero
theorem bL_1 : ∀ i, i < 64 → btL 1 i = decide (i = 0) := by decide +kernel
theorem sL_l : ∀ n, n < 64 → (((nI n).toInt64 &&& 63).toBitVec.smod 64).toNat = n := by decide +kernel
theorem bL_shl (n : Nat) (hn : n < 64) (x : Int64) {i : Nat} (hi : i < 64) : btL (x <<< ((nI n).toInt64 &&& 63)) i = (decide (n ≤ i) && btL x (i - n)) := by
  unfold btL
  rw [Int64.toBitVec_shiftLeft]
  show (x.toBitVec <<< (((nI n).toInt64 &&& 63).toBitVec.smod 64).toNat).getLsbD i = _
  rw [sL_l n hn, BitVec.getLsbD_shiftLeft]
  rcases Nat.lt_or_ge i n with h | h
  · simp [h, Nat.not_le.mpr h]
  · simp [hi, h, Nat.not_lt.mpr h]
theorem bL_sshr (n : Nat) (hn : n < 64) (x : Int64) {i : Nat} (hi : i < 64) : btL (x >>> ((nI n).toInt64 &&& 63)) i = if n + i < 64 then btL x (n + i) else btL x 63 := by
  unfold btL
  rw [Int64.toBitVec_shiftRight]
  show (x.toBitVec.sshiftRight (((nI n).toInt64 &&& 63).toBitVec.smod 64).toNat).getLsbD i = _
  rw [sL_l n hn, BitVec.getLsbD_sshiftRight, BitVec.msb_eq_getLsbD_last]
  simp [hi]
theorem btL_bit {x : Int64} {c : Int32} (h0 : 0 ≤ c.toInt) (h1 : c.toInt < 64) : ((x >>> (c.toInt64 &&& 63)) &&& 1) = 0 ↔ btL x c.toNatClampNeg = false := by
  have hc := i_cl h0
  have e : x >>> (c.toInt64 &&& 63) = x >>> ((nI c.toNatClampNeg).toInt64 &&& 63) := by rw [i_nI h0]
  have key : btL (x >>> (c.toInt64 &&& 63)) 0 = btL x c.toNatClampNeg := by
    rw [e, bL_sshr c.toNatClampNeg (by omega) x (by omega), if_pos (by omega), Nat.add_zero]
  rw [← key]
  constructor
  · intro h
    have h2 : btL ((x >>> (c.toInt64 &&& 63)) &&& 1) 0 = btL 0 0 := by rw [h]
    rw [bL_and, bL_0, bL_1 0 (by omega)] at h2
    simpa using h2
  · intro h
    apply bL_ext
    intro i hi
    rw [bL_and, bL_0, bL_1 i hi]
    by_cases g : i = 0
    · rw [g, h]; rfl
    · rw [decide_eq_false g, Bool.and_false]
theorem btL_set {x : Int64} {c : Int32} (h0 : 0 ≤ c.toInt) (h1 : c.toInt < 64) {i : Nat} (hi : i < 64) : btL (x ||| ((1 : Int64) <<< (c.toInt64 &&& 63))) i = (btL x i || decide (i = c.toNatClampNeg)) := by
  have hc := i_cl h0
  have e : (1 : Int64) <<< (c.toInt64 &&& 63) = (1 : Int64) <<< ((nI c.toNatClampNeg).toInt64 &&& 63) := by rw [i_nI h0]
  rw [bL_or, e, bL_shl c.toNatClampNeg (by omega) 1 hi]
  rcases Nat.lt_or_ge i c.toNatClampNeg with h | h
  · rw [decide_eq_false (by omega), decide_eq_false (by omega)]; rfl
  · rw [decide_eq_true h, bL_1 _ (by omega), Bool.true_and]
    by_cases g : i = c.toNatClampNeg
    · rw [decide_eq_true g, decide_eq_true (by omega)]
    · rw [decide_eq_false g, decide_eq_false (by omega)]
def nbL (x : Int64) : Nat → Nat
  | 0 => 0
  | n + 1 => nbL x n + (if btL x n = true then 1 else 0)
theorem nbL_le (x : Int64) : ∀ n, nbL x n ≤ n
  | 0 => Nat.le_refl _
  | n + 1 => by
    have := nbL_le x n
    unfold nbL
    split <;> omega
theorem nbL_same {x y : Int64} : ∀ n, (∀ i, i < n → btL y i = btL x i) → nbL y n = nbL x n
  | 0, _ => rfl
  | n + 1, h => by
    unfold nbL
    rw [nbL_same n (fun i hi => h i (by omega)), h n (by omega)]
theorem nbL_flip {x y : Int64} {k : Nat} (h1 : btL x k = false) (h2 : btL y k = true) : ∀ n, k < n → (∀ i, i < n → i ≠ k → btL y i = btL x i) → nbL y n = nbL x n + 1
  | 0, hk, _ => by omega
  | n + 1, hk, h => by
    unfold nbL
    by_cases e : k = n
    · subst e
      rw [nbL_same k (fun i hi => h i (by omega) (by omega)), h1, h2]
      simp
    · rw [nbL_flip h1 h2 n (by omega) (fun i hi hne => h i (by omega) hne), h n (by omega) (fun q => e q.symm)]
      omega
/-- a bit that was not set is set -/
theorem nbL_set {x : Int64} {c : Int32} (h0 : 0 ≤ c.toInt) (h1 : c.toInt < 40) (hf : btL x c.toNatClampNeg = false) : nbL (x ||| ((1 : Int64) <<< (c.toInt64 &&& 63))) 40 = nbL x 40 + 1 := by
  have hc := i_cl h0
  refine nbL_flip hf (by rw [btL_set h0 (by omega) (by omega)]; simp) 40 (by omega) (fun i hi hne => ?_)
  rw [btL_set h0 (by omega) (by omega), decide_eq_false hne]; simp
