section
def bt (x : Int32) (i : Nat) : Bool := x.toBitVec.getLsbD i
theorem b_ext {x y : Int32} (h : ∀ i, i < 32 → bt x i = bt y i) : x = y := Int32.toBitVec_inj.mp (BitVec.eq_of_getLsbD_eq (fun i hi => h i hi))
theorem b_or (x y : Int32) (i : Nat) : bt (x ||| y) i = (bt x i || bt y i) := by unfold bt; rw [Int32.toBitVec_or, BitVec.getLsbD_or]
theorem b_and (x y : Int32) (i : Nat) : bt (x &&& y) i = (bt x i && bt y i) := by unfold bt; rw [Int32.toBitVec_and, BitVec.getLsbD_and]
theorem b_xor (x y : Int32) (i : Nat) : bt (x ^^^ y) i = (bt x i ^^ bt y i) := by unfold bt; rw [Int32.toBitVec_xor, BitVec.getLsbD_xor]
theorem b_big {x : Int32} {i : Nat} (h : 32 ≤ i) : bt x i = false := BitVec.getLsbD_of_ge _ _ h
theorem b_255 (i : Nat) : bt 255 i = decide (i < 8) := by
  rcases Nat.lt_or_ge i 32 with h | h
  · exact (by decide +kernel : ∀ i, i < 32 → bt 255 i = decide (i < 8)) i h
  · rw [b_big h, decide_eq_false (by omega)]
theorem b_65535 (i : Nat) : bt 65535 i = decide (i < 16) := by
  rcases Nat.lt_or_ge i 32 with h | h
  · exact (by decide +kernel : ∀ i, i < 32 → bt 65535 i = decide (i < 16)) i h
  · rw [b_big h, decide_eq_false (by omega)]
theorem b_m1 : ∀ i, i < 32 → bt (-1) i = true := by decide +kernel
theorem b_0 (i : Nat) : bt 0 i = false := BitVec.getLsbD_zero
theorem s_l : ∀ n, n < 32 → ((nI n &&& 31).toBitVec.smod 32).toNat = n := by decide +kernel
theorem s_u : ∀ n, n < 32 → (((nI n).toUInt32 &&& Int32.toUInt32 31).toBitVec % 32).toNat = n := by decide +kernel
theorem b_shl (n : Nat) (hn : n < 32) (x : Int32) {i : Nat} (hi : i < 32) : bt (x <<< (nI n &&& 31)) i = (decide (n ≤ i) && bt x (i - n)) := by
  unfold bt
  rw [Int32.toBitVec_shiftLeft]
  show (x.toBitVec <<< ((nI n &&& 31).toBitVec.smod 32).toNat).getLsbD i = _
  rw [s_l n hn, BitVec.getLsbD_shiftLeft]
  rcases Nat.lt_or_ge i n with h | h
  · simp [h, Nat.not_le.mpr h]
  · simp [hi, h, Nat.not_lt.mpr h]
theorem b_ushr (n : Nat) (hn : n < 32) (x : Int32) (i : Nat) : bt ((x.toUInt32 >>> ((nI n).toUInt32 &&& Int32.toUInt32 31)).toInt32) i = bt x (n + i) := by
  show (x.toUInt32 >>> ((nI n).toUInt32 &&& Int32.toUInt32 31)).toBitVec.getLsbD i = x.toUInt32.toBitVec.getLsbD (n + i)
  rw [UInt32.toBitVec_shiftRight]
  show (x.toUInt32.toBitVec >>> (((nI n).toUInt32 &&& Int32.toUInt32 31).toBitVec % 32).toNat).getLsbD i = _
  rw [s_u n hn, BitVec.getLsbD_ushiftRight]
theorem b_sshr (n : Nat) (hn : n < 32) (x : Int32) {i : Nat} (hi : i < 32) : bt (x >>> (nI n &&& 31)) i = if n + i < 32 then bt x (n + i) else bt x 31 := by
  unfold bt
  rw [Int32.toBitVec_shiftRight]
  show (x.toBitVec.sshiftRight ((nI n &&& 31).toBitVec.smod 32).toNat).getLsbD i = _
  rw [s_l n hn, BitVec.getLsbD_sshiftRight, BitVec.msb_eq_getLsbD_last]
  simp [hi]

theorem i_nI {x : Int32} (h : 0 ≤ x.toInt) : nI x.toNatClampNeg = x := by
  have h1 := i_rng x
  have h2 := i_cl h
  exact i_of (by rw [nI_toInt (by omega)]; exact h2)
theorem bt_1 : ∀ i, i < 32 → bt 1 i = decide (i = 0) := by decide +kernel
theorem bt_shl {c : Int32} (h0 : 0 ≤ c.toInt) (h1 : c.toInt < 32) {i : Nat} (hi : i < 32) : bt ((1 : Int32) <<< (c &&& 31)) i = decide (i = c.toNatClampNeg) := by
  have hc := i_cl h0
  have e : (1 : Int32) <<< (c &&& 31) = (1 : Int32) <<< (nI c.toNatClampNeg &&& 31) := by rw [i_nI h0]
  rw [e, b_shl c.toNatClampNeg (by omega) 1 hi]
  rcases Nat.lt_or_ge i c.toNatClampNeg with h | h
  · rw [decide_eq_false (by omega), decide_eq_false (by omega)]; rfl
  · rw [decide_eq_true h, bt_1 _ (by omega), Bool.true_and]
    by_cases g : i = c.toNatClampNeg
    · rw [decide_eq_true g, decide_eq_true (by omega)]
    · rw [decide_eq_false g, decide_eq_false (by omega)]
theorem bt_bit {x c : Int32} (h0 : 0 ≤ c.toInt) (h1 : c.toInt < 32) : ((x >>> (c &&& 31)) &&& 1) = 0 ↔ bt x c.toNatClampNeg = false := by
  have hc := i_cl h0
  have e : x >>> (c &&& 31) = x >>> (nI c.toNatClampNeg &&& 31) := by rw [i_nI h0]
  have key : bt (x >>> (c &&& 31)) 0 = bt x c.toNatClampNeg := by
    rw [e, b_sshr c.toNatClampNeg (by omega) x (by omega), if_pos (by omega), Nat.add_zero]
  rw [← key]
  constructor
  · intro h
    have h2 : bt ((x >>> (c &&& 31)) &&& 1) 0 = bt 0 0 := by rw [h]
    rw [b_and, b_0, bt_1 0 (by omega)] at h2
    simpa using h2
  · intro h
    apply b_ext
    intro i hi
    rw [b_and, b_0, bt_1 i hi]
    by_cases g : i = 0
    · rw [g, h]; rfl
    · rw [decide_eq_false g, Bool.and_false]
theorem bt_set {x c : Int32} (h0 : 0 ≤ c.toInt) (h1 : c.toInt < 32) {i : Nat} (hi : i < 32) : bt (x ||| ((1 : Int32) <<< (c &&& 31))) i = (bt x i || decide (i = c.toNatClampNeg)) := by
  rw [b_or, bt_shl h0 h1 hi]
theorem bt_clr {x c : Int32} (h0 : 0 ≤ c.toInt) (h1 : c.toInt < 32) {i : Nat} (hi : i < 32) : bt (x &&& (((1 : Int32) <<< (c &&& 31)) ^^^ (-1))) i = (bt x i && !decide (i = c.toNatClampNeg)) := by
  rw [b_and, b_xor, bt_shl h0 h1 hi, b_m1 i hi]
  cases decide (i = c.toNatClampNeg) <;> rfl
/-- how many of the bits below n are set -/
def nb (x : Int32) : Nat → Nat
  | 0 => 0
  | n + 1 => nb x n + (if bt x n = true then 1 else 0)
theorem nb_le (x : Int32) : ∀ n, nb x n ≤ n
  | 0 => Nat.le_refl _
  | n + 1 => by
    have := nb_le x n
    unfold nb
    split <;> omega
theorem nb_same {x y : Int32} : ∀ n, (∀ i, i < n → bt y i = bt x i) → nb y n = nb x n
  | 0, _ => rfl
  | n + 1, h => by
    unfold nb
    rw [nb_same n (fun i hi => h i (by omega)), h n (by omega)]
theorem nb_flip {x y : Int32} {k : Nat} (h1 : bt x k = false) (h2 : bt y k = true) : ∀ n, k < n → (∀ i, i < n → i ≠ k → bt y i = bt x i) → nb y n = nb x n + 1
  | 0, hk, _ => by omega
  | n + 1, hk, h => by
    unfold nb
    by_cases e : k = n
    · subst e
      rw [nb_same k (fun i hi => h i (by omega) (by omega)), h1, h2]
      simp
    · rw [nb_flip h1 h2 n (by omega) (fun i hi hne => h i (by omega) hne), h n (by omega) (fun q => e q.symm)]
      omega
theorem nb_0 : ∀ n, nb 0 n = 0
  | 0 => rfl
  | n + 1 => by
    unfold nb
    rw [nb_0 n, b_0]
    simp
/-- the reference's search for rows of owners: depth a, companies met, path, tried -/
def okT (a met : Int32) (mp mt : Nat → Int32) : Prop :=
  -1 ≤ a.toInt ∧ a.toInt ≤ 10 ∧ (0 ≤ a.toInt → (nb met 10 : Int) = a.toInt) ∧ (0 ≤ (mp 0).toInt ∧ (mp 0).toInt < 20) ∧
  (∀ j : Nat, 1 ≤ j → (j : Int) ≤ a.toInt → 10 ≤ (mp j).toInt ∧ (mp j).toInt < 20 ∧ bt met ((mp j).toInt - 10).toNat = true) ∧
  (∀ i j : Nat, 1 ≤ i → i < j → (j : Int) ≤ a.toInt → (mp i).toInt ≠ (mp j).toInt) ∧
  (∀ j : Nat, (j : Int) ≤ a.toInt → -1 ≤ (mt j).toInt ∧ (mt j).toInt ≤ 9)
def muT (mt : Nat → Int32) : Nat → Int
  | 0 => 0
  | n + 1 => muT mt n + (10 - (mt n).toInt) * 12 ^ (11 - n)
theorem muT_same {f g : Nat → Int32} : ∀ n, (∀ j, j < n → g j = f j) → muT g n = muT f n
  | 0, _ => rfl
  | n + 1, h => by
    unfold muT
    rw [muT_same n (fun j hj => h j (by omega)), h n (by omega)]
theorem muT_nn {f : Nat → Int32} : ∀ n, (∀ j, j < n → (f j).toInt ≤ 10) → 0 ≤ muT f n
  | 0, _ => Int.le_refl _
  | n + 1, h => by
    unfold muT
    have h1 := muT_nn n (fun j hj => h j (by omega))
    have h2 := h n (by omega)
    have h3 : (0 : Int) ≤ (10 - (f n).toInt) * 12 ^ (11 - n) := Int.mul_nonneg (by omega) (Int.le_of_lt (Int.pow_pos (by decide)))
    omega
theorem okT_pos {a met : Int32} {mp mt : Nat → Int32} (h : okT a met mp mt) : 0 ≤ muT mt (a.toInt + 1).toNat := by
  refine muT_nn _ (fun j hj => ?_)
  have := h.2.2.2.2.2.2 j (by omega)
  omega
theorem okT_0 {p : Int32} {mp mt : Nat → Int32} (h0 : 0 ≤ p.toInt) (h1 : p.toInt < 20) : okT 0 0 (upd mp ((0 : Int32).toNatClampNeg) p) (upd mt ((0 : Int32).toNatClampNeg) (-1)) := by
  have k0 : (0 : Int32).toInt = 0 := rfl
  have km : (-1 : Int32).toInt = -1 := rfl
  have c0 : (0 : Int32).toNatClampNeg = 0 := rfl
  rw [c0]
  refine ⟨by omega, by omega, fun _ => by rw [nb_0, k0]; rfl, by rw [upd_s]; omega, fun j h2 h3 => by omega, fun i j h2 h3 h4 => by omega, fun j hj => ?_⟩
  have : j = 0 := by omega
  subst this
  rw [upd_s]; omega
/-- the path's and tried's places -/
theorem okT_path {a met : Int32} {mp mt : Nat → Int32} (h : okT a met mp mt) {v i : Int32} (e : v = mp i.toNatClampNeg) (h0 : 0 ≤ i.toInt) (h1 : i.toInt ≤ a.toInt) : 0 ≤ v.toInt ∧ v.toInt < 20 ∧ (0 < i.toInt → 10 ≤ v.toInt) := by
  have hc := i_cl h0
  rw [e]
  by_cases g : i.toNatClampNeg = 0
  · rw [g]; have := h.2.2.2.1; omega
  · have := h.2.2.2.2.1 i.toNatClampNeg (by omega) (by omega); omega
theorem okT_tried {a met : Int32} {mp mt : Nat → Int32} (h : okT a met mp mt) {v i : Int32} (e : v = mt i.toNatClampNeg) (h0 : 0 ≤ i.toInt) (h1 : i.toInt ≤ a.toInt) : -1 ≤ v.toInt ∧ v.toInt ≤ 9 := by
  have hc := i_cl h0
  rw [e]
  exact h.2.2.2.2.2.2 _ (by omega)
theorem okT_stay {a met c t : Int32} {mp mt : Nat → Int32} (h : okT a met mp mt) (h0 : 0 ≤ a.toInt) (ht : t = mt a.toNatClampNeg) (hc : c.toInt = t.toInt + 1) (h9 : c.toInt ≤ 9) : okT a met mp (upd mt a.toNatClampNeg c) ∧ muT (upd mt a.toNatClampNeg c) (a.toInt + 1).toNat < muT mt (a.toInt + 1).toNat := by
  have ca := i_cl h0
  have ht2 := okT_tried h ht h0 (Int.le_refl _)
  obtain ⟨g1, g2, g3, g4, g5, g6, g7⟩ := h
  refine ⟨⟨g1, g2, g3, g4, g5, g6, fun j hj => ?_⟩, ?_⟩
  · by_cases e : j = a.toNatClampNeg
    · subst e; rw [upd_s]; omega
    · rw [upd_n _ _ e]; exact g7 j hj
  · have en : (a.toInt + 1).toNat = a.toNatClampNeg + 1 := by omega
    rw [en]
    unfold muT
    rw [upd_s, muT_same (f := mt) a.toNatClampNeg (fun j hj => upd_n _ _ (by omega)), ← ht, hc]
    have hp : (0 : Int) < 12 ^ (11 - a.toNatClampNeg) := Int.pow_pos (by decide)
    generalize (12 : Int) ^ (11 - a.toNatClampNeg) = w at hp ⊢
    have : (10 - (t.toInt + 1)) * w = (10 - t.toInt) * w - w := by rw [show (10 - (t.toInt + 1)) = (10 - t.toInt) - 1 by omega, Int.sub_mul, Int.one_mul]
    omega
theorem okT_pop {a b met met' c : Int32} {mp mt : Nat → Int32} (h : okT a met mp mt) (h0 : 0 ≤ a.toInt) (hb : b.toInt = a.toInt - 1) (hm : 0 < a.toInt → ∀ i, i < 10 → bt met' i = (bt met i && !decide (i = ((mp a.toNatClampNeg).toInt - 10).toNat))) : okT b met' mp (upd mt a.toNatClampNeg c) ∧ muT (upd mt a.toNatClampNeg c) (b.toInt + 1).toNat < muT mt (a.toInt + 1).toNat := by
  have ca := i_cl h0
  obtain ⟨g1, g2, g3, g4, g5, g6, g7⟩ := h
  refine ⟨⟨by omega, by omega, fun hb0 => ?_, g4, fun j h1 h2 => ?_, fun i j h1 h2 h3 => g6 i j h1 h2 (by omega), fun j hj => ?_⟩, ?_⟩
  · have hm := hm (by omega)
    have q := g5 a.toNatClampNeg (by omega) (by omega)
    have hk : ((mp a.toNatClampNeg).toInt - 10).toNat < 10 := by omega
    have f := nb_flip (x := met') (y := met) (k := ((mp a.toNatClampNeg).toInt - 10).toNat) (by rw [hm _ hk, q.2.2]; simp) q.2.2 10 hk (fun i hi hne => by rw [hm i hi, decide_eq_false hne]; simp)
    have := g3 h0
    omega
  · have hm := hm (by omega)
    have q := g5 j h1 (by omega)
    refine ⟨q.1, q.2.1, ?_⟩
    have qa := g5 a.toNatClampNeg (by omega) (by omega)
    have ne := g6 j a.toNatClampNeg h1 (by omega) (by omega)
    rw [hm _ (by omega), q.2.2, decide_eq_false (by omega)]; rfl
  · rw [upd_n _ _ (by omega)]; exact g7 j (by omega)
  · have eb : (b.toInt + 1).toNat = a.toNatClampNeg := by omega
    have en : (a.toInt + 1).toNat = a.toNatClampNeg + 1 := by omega
    rw [eb, en, muT_same (f := mt) a.toNatClampNeg (fun j hj => upd_n _ _ (by omega))]
    show _ < muT mt a.toNatClampNeg + (10 - (mt a.toNatClampNeg).toInt) * 12 ^ (11 - a.toNatClampNeg)
    have ht := g7 a.toNatClampNeg (by omega)
    have hp : (0 : Int) < (10 - (mt a.toNatClampNeg).toInt) * 12 ^ (11 - a.toNatClampNeg) := Int.mul_pos (by omega) (Int.pow_pos (by decide))
    omega
theorem okT_push {a b met met' c t x : Int32} {mp mt : Nat → Int32} (h : okT a met mp mt) (h0 : 0 ≤ a.toInt) (ht : t = mt a.toNatClampNeg) (hc : c.toInt = t.toInt + 1) (h9 : c.toInt ≤ 9) (hb : b.toInt = a.toInt + 1) (hf : bt met c.toNatClampNeg = false) (hm : ∀ i, i < 10 → bt met' i = (bt met i || decide (i = c.toNatClampNeg))) (hx : x.toInt = c.toInt + 10) : okT b met' (upd mp b.toNatClampNeg x) (upd (upd mt a.toNatClampNeg c) b.toNatClampNeg (-1)) ∧ muT (upd (upd mt a.toNatClampNeg c) b.toNatClampNeg (-1)) (b.toInt + 1).toNat < muT mt (a.toInt + 1).toNat := by
  have ca := i_cl h0
  have cb := i_cl (x := b) (by omega)
  have ht2 := okT_tried h ht h0 (Int.le_refl _)
  have cc := i_cl (x := c) (by omega)
  have km : (-1 : Int32).toInt = -1 := rfl
  obtain ⟨g1, g2, g3, g4, g5, g6, g7⟩ := h
  have hk : c.toNatClampNeg < 10 := by omega
  have f := nb_flip (x := met) (y := met') (k := c.toNatClampNeg) hf (by rw [hm _ hk]; simp) 10 hk (fun i hi hne => by rw [hm i hi, decide_eq_false hne]; simp)
  have hle := nb_le met' 10
  have ha := g3 h0
  have hb9 : b.toNatClampNeg = a.toNatClampNeg + 1 := by omega
  have hold : ∀ j : Nat, (j : Int) ≤ a.toInt → j ≠ b.toNatClampNeg := fun j hj => by omega
  have hnew : ∀ j : Nat, 1 ≤ j → (j : Int) ≤ a.toInt → (mp j).toInt ≠ c.toInt + 10 := by
    intro j h1 h2 e
    have q := g5 j h1 h2
    have : ((mp j).toInt - 10).toNat = c.toNatClampNeg := by omega
    rw [this, hf] at q
    exact absurd q.2.2 (by decide)
  refine ⟨⟨by omega, by omega, fun _ => by omega, ?_, fun j h1 h2 => ?_, fun i j h1 h2 h3 => ?_, fun j hj => ?_⟩, ?_⟩
  · rw [upd_n _ _ (by omega)]; exact g4
  · by_cases e : j = b.toNatClampNeg
    · subst e
      rw [upd_s]
      refine ⟨by omega, by omega, ?_⟩
      rw [hm _ (by omega), decide_eq_true (by omega)]; simp
    · rw [upd_n _ _ e]
      have q := g5 j h1 (by omega)
      refine ⟨q.1, q.2.1, ?_⟩
      rw [hm _ (by omega), q.2.2]; rfl
  · by_cases e : j = b.toNatClampNeg
    · subst e
      rw [upd_s, upd_n _ _ (by omega), hx]
      exact hnew i h1 (by omega)
    · rw [upd_n _ _ e, upd_n _ _ (by omega)]
      exact g6 i j h1 h2 (by omega)
  · by_cases e : j = b.toNatClampNeg
    · subst e; rw [upd_s]; omega
    · rw [upd_n _ _ e]
      by_cases e2 : j = a.toNatClampNeg
      · subst e2; rw [upd_s]; omega
      · rw [upd_n _ _ e2]; exact g7 j (by omega)
  · have eb : (b.toInt + 1).toNat = a.toNatClampNeg + 1 + 1 := by omega
    have en : (a.toInt + 1).toNat = a.toNatClampNeg + 1 := by omega
    rw [eb, en, hb9]
    show muT (upd (upd mt a.toNatClampNeg c) (a.toNatClampNeg + 1) (-1)) a.toNatClampNeg + (10 - (upd (upd mt a.toNatClampNeg c) (a.toNatClampNeg + 1) (-1) a.toNatClampNeg).toInt) * 12 ^ (11 - a.toNatClampNeg) + (10 - (upd (upd mt a.toNatClampNeg c) (a.toNatClampNeg + 1) (-1) (a.toNatClampNeg + 1)).toInt) * 12 ^ (11 - (a.toNatClampNeg + 1)) < muT mt a.toNatClampNeg + (10 - (mt a.toNatClampNeg).toInt) * 12 ^ (11 - a.toNatClampNeg)
    rw [upd_s, upd_n _ _ (show a.toNatClampNeg ≠ a.toNatClampNeg + 1 by omega), upd_s, muT_same (f := mt) a.toNatClampNeg (fun j hj => by rw [upd_n _ _ (by omega), upd_n _ _ (by omega)]), ← ht, km, hc]
    have hw : (12 : Int) ^ (11 - a.toNatClampNeg) = 12 ^ (11 - (a.toNatClampNeg + 1)) * 12 := by
      rw [← Int.pow_succ]
      congr 1
      omega
    have hp : (0 : Int) < 12 ^ (11 - (a.toNatClampNeg + 1)) := Int.pow_pos (by decide)
    rw [hw]
    generalize (12 : Int) ^ (11 - (a.toNatClampNeg + 1)) = w at hp ⊢
    have e1 : (10 - (t.toInt + 1)) * (w * 12) = (10 - t.toInt) * (w * 12) - w * 12 := by rw [show (10 - (t.toInt + 1)) = (10 - t.toInt) - 1 by omega, Int.sub_mul, Int.one_mul]
    omega

/-! longs by their bits -/
def btL (x : Int64) (i : Nat) : Bool := x.toBitVec.getLsbD i
theorem bL_ext {x y : Int64} (h : ∀ i, i < 64 → btL x i = btL y i) : x = y := Int64.toBitVec_inj.mp (BitVec.eq_of_getLsbD_eq (fun i hi => h i hi))
theorem bL_or (x y : Int64) (i : Nat) : btL (x ||| y) i = (btL x i || btL y i) := by unfold btL; rw [Int64.toBitVec_or, BitVec.getLsbD_or]
theorem bL_and (x y : Int64) (i : Nat) : btL (x &&& y) i = (btL x i && btL y i) := by unfold btL; rw [Int64.toBitVec_and, BitVec.getLsbD_and]
theorem bL_0 (i : Nat) : btL 0 i = false := BitVec.getLsbD_zero
theorem bL_1 : ∀ i, i < 64 → btL 1 i = decide (i = 0) := by decide +kernel
theorem sL_l : ∀ n, n < 64 → (((nI n).toInt64 &&& 63).toBitVec.smod 64).toNat = n := by decide +kernel
theorem bL_shl (n : Nat) (hn : n < 64) (x : Int64) {i : Nat} (hi : i < 64) : btL (x <<< ((nI n).toInt64 &&& 63)) i = (decide (n ≤ i) && btL x (i - n)) := by
  unfold btL
  rw [Int64.toBitVec_shiftLeft]
  show (x.toBitVec <<< (((nI n).toInt64 &&& 63).toBitVec.smod 64).toNat).getLsbD i = _
  rw [sL_l n hn, BitVec.getLsbD_shiftLeft]
  rcases Nat.lt_or_ge i n with h | h
  · simp [h, Nat.not_le.mpr h]
  · simp [hi, h, Nat.not_lt.mpr h]
theorem bL_sshr (n : Nat) (hn : n < 64) (x : Int64) {i : Nat} (hi : i < 64) : btL (x >>> ((nI n).toInt64 &&& 63)) i = if n + i < 64 then btL x (n + i) else btL x 63 := by
  unfold btL
  rw [Int64.toBitVec_shiftRight]
  show (x.toBitVec.sshiftRight (((nI n).toInt64 &&& 63).toBitVec.smod 64).toNat).getLsbD i = _
  rw [sL_l n hn, BitVec.getLsbD_sshiftRight, BitVec.msb_eq_getLsbD_last]
  simp [hi]
theorem btL_bit {x : Int64} {c : Int32} (h0 : 0 ≤ c.toInt) (h1 : c.toInt < 64) : ((x >>> (c.toInt64 &&& 63)) &&& 1) = 0 ↔ btL x c.toNatClampNeg = false := by
  have hc := i_cl h0
  have e : x >>> (c.toInt64 &&& 63) = x >>> ((nI c.toNatClampNeg).toInt64 &&& 63) := by rw [i_nI h0]
  have key : btL (x >>> (c.toInt64 &&& 63)) 0 = btL x c.toNatClampNeg := by
    rw [e, bL_sshr c.toNatClampNeg (by omega) x (by omega), if_pos (by omega), Nat.add_zero]
  rw [← key]
  constructor
  · intro h
    have h2 : btL ((x >>> (c.toInt64 &&& 63)) &&& 1) 0 = btL 0 0 := by rw [h]
    rw [bL_and, bL_0, bL_1 0 (by omega)] at h2
    simpa using h2
  · intro h
    apply bL_ext
    intro i hi
    rw [bL_and, bL_0, bL_1 i hi]
    by_cases g : i = 0
    · rw [g, h]; rfl
    · rw [decide_eq_false g, Bool.and_false]
theorem btL_set {x : Int64} {c : Int32} (h0 : 0 ≤ c.toInt) (h1 : c.toInt < 64) {i : Nat} (hi : i < 64) : btL (x ||| ((1 : Int64) <<< (c.toInt64 &&& 63))) i = (btL x i || decide (i = c.toNatClampNeg)) := by
  have hc := i_cl h0
  have e : (1 : Int64) <<< (c.toInt64 &&& 63) = (1 : Int64) <<< ((nI c.toNatClampNeg).toInt64 &&& 63) := by rw [i_nI h0]
  rw [bL_or, e, bL_shl c.toNatClampNeg (by omega) 1 hi]
  rcases Nat.lt_or_ge i c.toNatClampNeg with h | h
  · rw [decide_eq_false (by omega), decide_eq_false (by omega)]; rfl
  · rw [decide_eq_true h, bL_1 _ (by omega), Bool.true_and]
    by_cases g : i = c.toNatClampNeg
    · rw [decide_eq_true g, decide_eq_true (by omega)]
    · rw [decide_eq_false g, decide_eq_false (by omega)]
def nbL (x : Int64) : Nat → Nat
  | 0 => 0
  | n + 1 => nbL x n + (if btL x n = true then 1 else 0)
theorem nbL_le (x : Int64) : ∀ n, nbL x n ≤ n
  | 0 => Nat.le_refl _
  | n + 1 => by
    have := nbL_le x n
    unfold nbL
    split <;> omega
theorem nbL_same {x y : Int64} : ∀ n, (∀ i, i < n → btL y i = btL x i) → nbL y n = nbL x n
  | 0, _ => rfl
  | n + 1, h => by
    unfold nbL
    rw [nbL_same n (fun i hi => h i (by omega)), h n (by omega)]
theorem nbL_flip {x y : Int64} {k : Nat} (h1 : btL x k = false) (h2 : btL y k = true) : ∀ n, k < n → (∀ i, i < n → i ≠ k → btL y i = btL x i) → nbL y n = nbL x n + 1
  | 0, hk, _ => by omega
  | n + 1, hk, h => by
    unfold nbL
    by_cases e : k = n
    · subst e
      rw [nbL_same k (fun i hi => h i (by omega) (by omega)), h1, h2]
      simp
    · rw [nbL_flip h1 h2 n (by omega) (fun i hi hne => h i (by omega) hne), h n (by omega) (fun q => e q.symm)]
      omega
/-- a bit that was not set is set -/
theorem nbL_set {x : Int64} {c : Int32} (h0 : 0 ≤ c.toInt) (h1 : c.toInt < 40) (hf : btL x c.toNatClampNeg = false) : nbL (x ||| ((1 : Int64) <<< (c.toInt64 &&& 63))) 40 = nbL x 40 + 1 := by
  have hc := i_cl h0
  refine nbL_flip hf (by rw [btL_set h0 (by omega) (by omega)]; simp) 40 (by omega) (fun i hi hne => ?_)
  rw [btL_set h0 (by omega) (by omega), decide_eq_false hne]; simp
end

section
theorem dJ7_fill_53178_all0 : decode cJ7_fill_53178 0 = .ok (.iconst 0, 1) ∧ decode cJ7_fill_53178 1 = .ok (.istore_n 2, 1) ∧ decode cJ7_fill_53178 2 = .ok (.aload_n 0, 1) ∧ decode cJ7_fill_53178 3 = .ok (.arraylength, 1) ∧ decode cJ7_fill_53178 4 = .ok (.istore_n 3, 1) ∧ decode cJ7_fill_53178 5 = .ok (.iload_n 2, 1) ∧ decode cJ7_fill_53178 6 = .ok (.iload_n 3, 1) ∧ decode cJ7_fill_53178 7 = .ok (.if_icmp .ge 13, 3) ∧ decode cJ7_fill_53178 10 = .ok (.aload_n 0, 1) ∧ decode cJ7_fill_53178 11 = .ok (.iload_n 2, 1) ∧ decode cJ7_fill_53178 12 = .ok (.iload_n 1, 1) ∧ decode cJ7_fill_53178 13 = .ok (.iastore, 1) := by decide +kernel
theorem dJ7_fill_53178_0 : decode cJ7_fill_53178 0 = .ok (.iconst 0, 1) := dJ7_fill_53178_all0.1
theorem dJ7_fill_53178_1 : decode cJ7_fill_53178 1 = .ok (.istore_n 2, 1) := dJ7_fill_53178_all0.2.1
theorem dJ7_fill_53178_2 : decode cJ7_fill_53178 2 = .ok (.aload_n 0, 1) := dJ7_fill_53178_all0.2.2.1
theorem dJ7_fill_53178_3 : decode cJ7_fill_53178 3 = .ok (.arraylength, 1) := dJ7_fill_53178_all0.2.2.2.1
theorem dJ7_fill_53178_4 : decode cJ7_fill_53178 4 = .ok (.istore_n 3, 1) := dJ7_fill_53178_all0.2.2.2.2.1
theorem dJ7_fill_53178_5 : decode cJ7_fill_53178 5 = .ok (.iload_n 2, 1) := dJ7_fill_53178_all0.2.2.2.2.2.1
theorem dJ7_fill_53178_6 : decode cJ7_fill_53178 6 = .ok (.iload_n 3, 1) := dJ7_fill_53178_all0.2.2.2.2.2.2.1
theorem dJ7_fill_53178_7 : decode cJ7_fill_53178 7 = .ok (.if_icmp .ge 13, 3) := dJ7_fill_53178_all0.2.2.2.2.2.2.2.1
theorem dJ7_fill_53178_10 : decode cJ7_fill_53178 10 = .ok (.aload_n 0, 1) := dJ7_fill_53178_all0.2.2.2.2.2.2.2.2.1
theorem dJ7_fill_53178_11 : decode cJ7_fill_53178 11 = .ok (.iload_n 2, 1) := dJ7_fill_53178_all0.2.2.2.2.2.2.2.2.2.1
theorem dJ7_fill_53178_12 : decode cJ7_fill_53178 12 = .ok (.iload_n 1, 1) := dJ7_fill_53178_all0.2.2.2.2.2.2.2.2.2.2.1
theorem dJ7_fill_53178_13 : decode cJ7_fill_53178 13 = .ok (.iastore, 1) := dJ7_fill_53178_all0.2.2.2.2.2.2.2.2.2.2.2
theorem dJ7_fill_53178_all1 : decode cJ7_fill_53178 14 = .ok (.iinc 2 1, 3) ∧ decode cJ7_fill_53178 17 = .ok (.goto (-12), 3) ∧ decode cJ7_fill_53178 20 = .ok (.return_, 1) := by decide +kernel
theorem dJ7_fill_53178_14 : decode cJ7_fill_53178 14 = .ok (.iinc 2 1, 3) := dJ7_fill_53178_all1.1
theorem dJ7_fill_53178_17 : decode cJ7_fill_53178 17 = .ok (.goto (-12), 3) := dJ7_fill_53178_all1.2.1
theorem dJ7_fill_53178_20 : decode cJ7_fill_53178 20 = .ok (.return_, 1) := dJ7_fill_53178_all1.2.2
set_option maxHeartbeats 4000000 in
set_option maxRecDepth 100000 in
theorem cFill (l : Launch) (D : va_G) (cI cY cJ cQ : ClassId) (sz : Nat) (q n : Nat) (f : Nat → Int32) (v : Int32) (hn : n < 2 ^ 31) : Met l yJ7_fill_53178 wsJ7_fill_53178 ({ frames := 0, cells := 0, slots := 0, locals := 0 }) (cPre D (ty4 cI cY cJ cQ) [(aI cI q n f)] sz [.ref q, .int v]) (va_Qv (fun (u : Unit) => True) (cB D (ty4 cI cY cJ cQ) (fun (u : Unit) => [(aI cI q n (fun _ => v))]) (va_A [(aI cI q n f)] sz)) (va_A [(aI cI q n f)] sz)) 0 0 (va_A [(aI cI q n f)] sz) := by
  refine Met.ofW (cc := cJ7_fill_53178) (maxL := 4) (ret := none) (by decide) rfl ?_
  intro p e s m args below meth c s₁ B hml hv
  obtain ⟨rfl, hsz, hP, hK, hD0, hN⟩ := hv
  have hx := B.exec
  have hb := B.bytes
  have hr := B.returns
  have hts := atoms_spec (ws := wsJ7_fill_53178) B.pre
  have hown : s.vm.findClass RJ7 = some m.cls := findClass_of_methodNamed B.named
  have hlocks := B.notSynchronized
  subst hsz
  have hD := hD0.self (sz := s.heap.size)
  generalize hAe : va_A [(aI cI q n f)] s.heap.size = A at hD ⊢
  have hA : ∀ q : Nat, s.heap.size ≤ q → A q := fun q h => by rw [← hAe]; exact Or.inr h
  have hS : va_S A s.heap s.heap [] := va_S.rf
  have hP : va_P D vwCl [(aI cI q n f)] s.heap := hP
  have hl := lv_entry ([.ref q, .int v]) (n := 4) (Nat.le_of_ble_eq_true rfl)
  rw [lg_entry_eq]
  generalize (lg_sl ([.ref q, .int v]) ++ List.replicate (4 - (lg_sl ([.ref q, .int v])).length) Slot.unset).toArray = ls at hl ⊢
  have hl : lv_has ls 4 [(0, .ref q), (1, .int v)] := hl
  have k0 : (0 : Int32).toInt = 0 := by decide
  have k1 : (1 : Int32).toInt = 1 := by decide
  have hnI : (nI n).toInt = (n : Int) := nI_toInt hn
  refine lv_iconst (v := 0) hx hb dJ7_fill_53178_0 (by decide) ?_
  refine lv_istore_n (lv' := [(2, .int 0), (0, .ref q), (1, .int v)]) hx hb dJ7_fill_53178_1 rfl hl (by decide) rfl (fun ls hl => ?_)
  refine lv_aload_n hx hb dJ7_fill_53178_2 rfl (lv_at hl 1 rfl) ?_
  refine va_alen (v := nI n) hx hb hK hP 0 0 rfl rfl rfl dJ7_fill_53178_3 ?_
  refine lv_istore_n (lv' := [(3, .int (nI n)), (2, .int 0), (0, .ref q), (1, .int v)]) hx hb dJ7_fill_53178_4 rfl hl (by decide) rfl (fun ls hl => ?_)
  refine st_loop 5 (fun _ => []) (fun (z : Int32 × (Nat → Int32)) (ls : Array Slot) (H : Heap) (locs : List Loc) => match z with | (i, g) => (0 ≤ i.toInt) ∧ (i.toInt ≤ (n : Int)) ∧ (∀ j : Nat, (j : Int) < i.toInt → g j = v) ∧ lv_has ls 4 [(0, .ref q), (1, .int v), (2, .int i), (3, .int (nI n))] ∧ va_P D vwCl [(aI cI q n g)] H ∧ va_D A [(aI cI q n g)] ∧ va_S A s.heap H locs) (fun (z : Int32 × (Nat → Int32)) => match z with | (i, g) => (n : Int) - i.toInt) ?_ ?_ ((0 : Int32), f) ⟨(by omega), (by omega), (by intro j hj; exfalso; omega), lv_sub hl [2, 3, 1, 0] rfl, hP, hD, hS⟩
  · rintro ⟨i, g⟩ ls H locs ⟨g1, g2, g3, hl, hP, hD, hS⟩
    show (0 : Int) ≤ (n : Int) - i.toInt
    omega
  · rintro n6 ih4 ⟨i, g⟩ ls H locs ⟨g1, g2, g3, hl, hP, hD, hS⟩ hm5
    have hm5 : (n : Int) - i.toInt < (n6 : Int) + 1 := hm5
    replace hl : lv_has ls 4 [(0, .ref q), (1, .int v), (2, .int i), (3, .int (nI n))] := hl
    replace hP : va_P D vwCl [(aI cI q n g)] H := hP
    replace hD : va_D A [(aI cI q n g)] := hD
    show W _ _ _ _ _ _ _ _ _ _ _ _ _ _ _ (F0 m 5 ls [])
    refine lv_iload_n hx hb dJ7_fill_53178_5 rfl (lv_at hl 2 rfl) ?_
    refine lv_iload_n hx hb dJ7_fill_53178_6 rfl (lv_at hl 3 rfl) ?_
    refine lv_icmp_ge (tgt := 20) hx hb dJ7_fill_53178_7 (by decide) (fun c7 => ?_) (fun c7 => ?_)
    · skip
      have f8 := i_le c7
      have hP9 : va_P D vwCl [(q, .inl (cI, n, .inl (fun _ => v)))] H := hP.cong1 (fun j hj => g3 j (by omega))
      have hD9 : va_D A [(q, .inl (cI, n, .inl (fun _ => v)))] := hD.adr rfl
      exact W.vret hx hb hr (fun t ht hW => ⟨⟨(), rfl, trivial, by rw [ht]; exact hP9, va_K.moved hW.alike hK, hD9⟩, hS.F ht⟩) hS.2.2 dJ7_fill_53178_20
    · skip
      have f9 := i_nle c7
      refine lv_aload_n hx hb dJ7_fill_53178_10 rfl (lv_at hl 0 rfl) ?_
      refine lv_iload_n hx hb dJ7_fill_53178_11 rfl (lv_at hl 2 rfl) ?_
      refine lv_iload_n hx hb dJ7_fill_53178_12 rfl (lv_at hl 1 rfl) ?_
      refine va_iast hx hb hK hP hD hS 0 0 rfl rfl (i_in (by omega) (by omega)) dJ7_fill_53178_13 (fun H locs => ?_)
      clear hP hD hS
      intro hP hD hS
      replace hP : va_P D vwCl [(aI cI q n (upd g i.toNatClampNeg v))] H := hP
      replace hD : va_D A [(aI cI q n (upd g i.toNatClampNeg v))] := hD
      obtain ⟨v10, ev10⟩ : ∃ y : Int32, y = i + 1 := ⟨_, rfl⟩
      have tv10 : v10.toInt = i.toInt + 1 := by rw [ev10]; exact (i_add (x := i) (y := (1 : Int32)) (by rw [k1]; omega) (by rw [k1]; omega)).trans (by rw [k1])
      refine lv_iinc (v := v10) (lv' := [(2, .int v10), (0, .ref q), (1, .int v), (3, .int (nI n))]) hx hb dJ7_fill_53178_14 hl (k := 2) rfl (by rw [ev10]; rfl) (by decide) rfl (fun ls hl => ?_)
      refine lv_goto (tgt := 5) hx hb dJ7_fill_53178_17 (by decide) ?_
      exact ih4 (v10, upd g i.toNatClampNeg v) ls H locs ⟨(by omega), (by omega), (by exact fun j hj => if h : j = i.toNatClampNeg then (by subst h; exact upd_s _ _ _) else (by rw [upd_n _ _ h]; exact g3 j (by have := i_cl g1; omega))), lv_sub hl [1, 2, 0, 3] rfl, hP.sub [0] rfl, hD.sub [0] (by decide +kernel) rfl, hS⟩ (by show (n : Int) - v10.toInt < _; omega)
end

section
theorem cdX10_isBelow : yX10_isBelow.cls ≠ "java/lang/invoke/MethodHandle" ∧ yX10_isBelow.cls ≠ "java/lang/invoke/VarHandle" ∧ (parseMethodDescriptor yX10_isBelow.desc).map (fun d => d.parameters.length) = some 2 := by decide +kernel
theorem cdX10_isDay : yX10_isDay.cls ≠ "java/lang/invoke/MethodHandle" ∧ yX10_isDay.cls ≠ "java/lang/invoke/VarHandle" ∧ (parseMethodDescriptor yX10_isDay.desc).map (fun d => d.parameters.length) = some 1 := by decide +kernel
theorem cdX10_isPerson : yX10_isPerson.cls ≠ "java/lang/invoke/MethodHandle" ∧ yX10_isPerson.cls ≠ "java/lang/invoke/VarHandle" ∧ (parseMethodDescriptor yX10_isPerson.desc).map (fun d => d.parameters.length) = some 1 := by decide +kernel
theorem cdX10_isOwner : yX10_isOwner.cls ≠ "java/lang/invoke/MethodHandle" ∧ yX10_isOwner.cls ≠ "java/lang/invoke/VarHandle" ∧ (parseMethodDescriptor yX10_isOwner.desc).map (fun d => d.parameters.length) = some 1 := by decide +kernel
theorem Gd_X10_isBelow : gdA wsX10_isBelow := gd_cons (by decide +kernel) (gd_all (ws := []) rfl)
theorem inX10_finding_X10 : ∀ w ∈ u_ws RX10 TX10 14, w ∈ wsX10_finding := fun _ h => (List.mem_cons_of_mem _ (List.mem_append_right _ h))
theorem inX10_passed_X10 : ∀ w ∈ u_ws RX10 TX10 14, w ∈ wsX10_passed := fun _ h => (List.mem_cons_of_mem _ (List.mem_append_right _ h))
theorem Gd_X10_isOwner : gdA wsX10_isOwner := gd_cons (by decide +kernel) (gd_app (gd_all (ws := wsX10_isOwner_o1) (by decide +kernel)) Gd_X10_isBelow)
theorem Gd_X10_isPerson : gdA wsX10_isPerson := gd_cons (by decide +kernel) (gd_app (gd_all (ws := wsX10_isPerson_o1) (by decide +kernel)) Gd_X10_isBelow)
theorem Gd_X10_isDay : gdA wsX10_isDay := gd_cons (by decide +kernel) (gd_app (gd_all (ws := wsX10_isDay_o1) (by decide +kernel)) Gd_X10_isBelow)
theorem inX10_isCrate_X10 : ∀ w ∈ u_ws RX10 TX10 14, w ∈ wsX10_isCrate := fun _ h => (List.mem_cons_of_mem _ (List.mem_append_right _ (List.mem_append_left _ (List.mem_append_left _ h))))
theorem inX10_isCrate_X1 : ∀ w ∈ u_ws RX1 TX1 6, w ∈ wsX10_isCrate := fun _ h => (List.mem_cons_of_mem _ (List.mem_append_right _ (List.mem_append_left _ (List.mem_append_right _ h))))
theorem inX10_fault_X2 : ∀ w ∈ u_ws RX2 TX2 15, w ∈ wsX10_fault := fun _ h => (List.mem_cons_of_mem _ (List.mem_append_right _ (List.mem_append_right _ h)))
theorem inX10_fault_X10 : ∀ w ∈ u_ws RX10 TX10 14, w ∈ wsX10_fault := fun _ h => (List.mem_cons_of_mem _ (List.mem_append_right _ (List.mem_append_left _ h)))
theorem inX10_day_X10 : ∀ w ∈ u_ws RX10 TX10 14, w ∈ wsX10_day := fun _ h => (List.mem_cons_of_mem _ (List.mem_append_right _ (List.mem_append_left _ h)))
theorem inX10_status_X10 : ∀ w ∈ u_ws RX10 TX10 14, w ∈ wsX10_status := fun _ h => (List.mem_cons_of_mem _ (List.mem_append_right _ h))
theorem dX2_isLetter_all0 : decode cX2_isLetter 0 = .ok (.iload_n 0, 1) ∧ decode cX2_isLetter 1 = .ok (.bipush 97, 2) ∧ decode cX2_isLetter 3 = .ok (.if_icmp .lt 13, 3) ∧ decode cX2_isLetter 6 = .ok (.iload_n 0, 1) ∧ decode cX2_isLetter 7 = .ok (.bipush 122, 2) ∧ decode cX2_isLetter 9 = .ok (.if_icmp .gt 7, 3) ∧ decode cX2_isLetter 12 = .ok (.iconst 1, 1) ∧ decode cX2_isLetter 13 = .ok (.goto 4, 3) ∧ decode cX2_isLetter 16 = .ok (.iconst 0, 1) ∧ decode cX2_isLetter 17 = .ok (.ireturn, 1) := by decide +kernel
theorem dX2_isLetter_0 : decode cX2_isLetter 0 = .ok (.iload_n 0, 1) := dX2_isLetter_all0.1
theorem dX2_isLetter_1 : decode cX2_isLetter 1 = .ok (.bipush 97, 2) := dX2_isLetter_all0.2.1
theorem dX2_isLetter_3 : decode cX2_isLetter 3 = .ok (.if_icmp .lt 13, 3) := dX2_isLetter_all0.2.2.1
theorem dX2_isLetter_6 : decode cX2_isLetter 6 = .ok (.iload_n 0, 1) := dX2_isLetter_all0.2.2.2.1
theorem dX2_isLetter_7 : decode cX2_isLetter 7 = .ok (.bipush 122, 2) := dX2_isLetter_all0.2.2.2.2.1
theorem dX2_isLetter_9 : decode cX2_isLetter 9 = .ok (.if_icmp .gt 7, 3) := dX2_isLetter_all0.2.2.2.2.2.1
theorem dX2_isLetter_12 : decode cX2_isLetter 12 = .ok (.iconst 1, 1) := dX2_isLetter_all0.2.2.2.2.2.2.1
theorem dX2_isLetter_13 : decode cX2_isLetter 13 = .ok (.goto 4, 3) := dX2_isLetter_all0.2.2.2.2.2.2.2.1
theorem dX2_isLetter_16 : decode cX2_isLetter 16 = .ok (.iconst 0, 1) := dX2_isLetter_all0.2.2.2.2.2.2.2.2.1
theorem dX2_isLetter_17 : decode cX2_isLetter 17 = .ok (.ireturn, 1) := dX2_isLetter_all0.2.2.2.2.2.2.2.2.2
theorem dX2_isFigure_all0 : decode cX2_isFigure 0 = .ok (.iload_n 0, 1) ∧ decode cX2_isFigure 1 = .ok (.bipush 48, 2) ∧ decode cX2_isFigure 3 = .ok (.if_icmp .lt 13, 3) ∧ decode cX2_isFigure 6 = .ok (.iload_n 0, 1) ∧ decode cX2_isFigure 7 = .ok (.bipush 57, 2) ∧ decode cX2_isFigure 9 = .ok (.if_icmp .gt 7, 3) ∧ decode cX2_isFigure 12 = .ok (.iconst 1, 1) ∧ decode cX2_isFigure 13 = .ok (.goto 4, 3) ∧ decode cX2_isFigure 16 = .ok (.iconst 0, 1) ∧ decode cX2_isFigure 17 = .ok (.ireturn, 1) := by decide +kernel
theorem dX2_isFigure_0 : decode cX2_isFigure 0 = .ok (.iload_n 0, 1) := dX2_isFigure_all0.1
theorem dX2_isFigure_1 : decode cX2_isFigure 1 = .ok (.bipush 48, 2) := dX2_isFigure_all0.2.1
theorem dX2_isFigure_3 : decode cX2_isFigure 3 = .ok (.if_icmp .lt 13, 3) := dX2_isFigure_all0.2.2.1
theorem dX2_isFigure_6 : decode cX2_isFigure 6 = .ok (.iload_n 0, 1) := dX2_isFigure_all0.2.2.2.1
theorem dX2_isFigure_7 : decode cX2_isFigure 7 = .ok (.bipush 57, 2) := dX2_isFigure_all0.2.2.2.2.1
theorem dX2_isFigure_9 : decode cX2_isFigure 9 = .ok (.if_icmp .gt 7, 3) := dX2_isFigure_all0.2.2.2.2.2.1
theorem dX2_isFigure_12 : decode cX2_isFigure 12 = .ok (.iconst 1, 1) := dX2_isFigure_all0.2.2.2.2.2.2.1
theorem dX2_isFigure_13 : decode cX2_isFigure 13 = .ok (.goto 4, 3) := dX2_isFigure_all0.2.2.2.2.2.2.2.1
theorem dX2_isFigure_16 : decode cX2_isFigure 16 = .ok (.iconst 0, 1) := dX2_isFigure_all0.2.2.2.2.2.2.2.2.1
theorem dX2_isFigure_17 : decode cX2_isFigure 17 = .ok (.ireturn, 1) := dX2_isFigure_all0.2.2.2.2.2.2.2.2.2
theorem dX10_fault_all0 : decode cX10_fault 0 = .ok (.aload_n 0, 1) ∧ decode cX10_fault 1 = .ok (.getfield 47, 3) ∧ decode cX10_fault 4 = .ok (.getfield 224, 3) ∧ decode cX10_fault 7 = .ok (.ireturn, 1) := by decide +kernel
theorem dX10_fault_0 : decode cX10_fault 0 = .ok (.aload_n 0, 1) := dX10_fault_all0.1
theorem dX10_fault_1 : decode cX10_fault 1 = .ok (.getfield 47, 3) := dX10_fault_all0.2.1
theorem dX10_fault_4 : decode cX10_fault 4 = .ok (.getfield 224, 3) := dX10_fault_all0.2.2.1
theorem dX10_fault_7 : decode cX10_fault 7 = .ok (.ireturn, 1) := dX10_fault_all0.2.2.2
theorem ggX10_day_X10_isDay : GoodIn wsX10_day wsX10_isDay := goodIn_s (fun _ h => wm_t (wm_r (wm_r h))) Gd_X10_isDay
theorem gX10_day_X10_isDay : GoodIn wsX10_day (va_wsS RX10 138 yX10_isDay wsX10_isDay) := goodIn_S (own := RX10) (idx := 138) (y := yX10_isDay) (wm_t (wm_l (wm_i 2 rfl))) (wm_t (wm_l (wm_i 3 rfl))) (wm_t (wm_l (wm_i 4 rfl))) ggX10_day_X10_isDay
theorem dX10_day_all0 : decode cX10_day 0 = .ok (.iload_n 1, 1) ∧ decode cX10_day 1 = .ok (.invokestatic 138, 3) ∧ decode cX10_day 4 = .ok (.ifCond .ne 6, 3) ∧ decode cX10_day 7 = .ok (.ldc 89, 2) ∧ decode cX10_day 9 = .ok (.ireturn, 1) ∧ decode cX10_day 10 = .ok (.aload_n 0, 1) ∧ decode cX10_day 11 = .ok (.getfield 298, 3) ∧ decode cX10_day 14 = .ok (.istore_n 2, 1) ∧ decode cX10_day 15 = .ok (.aload_n 0, 1) ∧ decode cX10_day 16 = .ok (.iload_n 1, 1) ∧ decode cX10_day 17 = .ok (.putfield 298, 3) ∧ decode cX10_day 20 = .ok (.iload_n 2, 1) := by decide +kernel
theorem dX10_day_0 : decode cX10_day 0 = .ok (.iload_n 1, 1) := dX10_day_all0.1
theorem dX10_day_1 : decode cX10_day 1 = .ok (.invokestatic 138, 3) := dX10_day_all0.2.1
theorem dX10_day_4 : decode cX10_day 4 = .ok (.ifCond .ne 6, 3) := dX10_day_all0.2.2.1
theorem dX10_day_7 : decode cX10_day 7 = .ok (.ldc 89, 2) := dX10_day_all0.2.2.2.1
theorem dX10_day_9 : decode cX10_day 9 = .ok (.ireturn, 1) := dX10_day_all0.2.2.2.2.1
theorem dX10_day_10 : decode cX10_day 10 = .ok (.aload_n 0, 1) := dX10_day_all0.2.2.2.2.2.1
theorem dX10_day_11 : decode cX10_day 11 = .ok (.getfield 298, 3) := dX10_day_all0.2.2.2.2.2.2.1
theorem dX10_day_14 : decode cX10_day 14 = .ok (.istore_n 2, 1) := dX10_day_all0.2.2.2.2.2.2.2.1
theorem dX10_day_15 : decode cX10_day 15 = .ok (.aload_n 0, 1) := dX10_day_all0.2.2.2.2.2.2.2.2.1
theorem dX10_day_16 : decode cX10_day 16 = .ok (.iload_n 1, 1) := dX10_day_all0.2.2.2.2.2.2.2.2.2.1
theorem dX10_day_17 : decode cX10_day 17 = .ok (.putfield 298, 3) := dX10_day_all0.2.2.2.2.2.2.2.2.2.2.1
theorem dX10_day_20 : decode cX10_day 20 = .ok (.iload_n 2, 1) := dX10_day_all0.2.2.2.2.2.2.2.2.2.2.2
theorem dX10_day_21 : decode cX10_day 21 = .ok (.ireturn, 1) := by decide +kernel
theorem dX10_status_all0 : decode cX10_status 0 = .ok (.aload_n 0, 1) ∧ decode cX10_status 1 = .ok (.getfield 322, 3) ∧ decode cX10_status 4 = .ok (.ireturn, 1) := by decide +kernel
theorem dX10_status_0 : decode cX10_status 0 = .ok (.aload_n 0, 1) := dX10_status_all0.1
theorem dX10_status_1 : decode cX10_status 1 = .ok (.getfield 322, 3) := dX10_status_all0.2.1
theorem dX10_status_4 : decode cX10_status 4 = .ok (.ireturn, 1) := dX10_status_all0.2.2
theorem dX10_isBelow_all0 : decode cX10_isBelow 0 = .ok (.iload_n 0, 1) ∧ decode cX10_isBelow 1 = .ok (.ifCond .lt 12, 3) ∧ decode cX10_isBelow 4 = .ok (.iload_n 0, 1) ∧ decode cX10_isBelow 5 = .ok (.iload_n 1, 1) ∧ decode cX10_isBelow 6 = .ok (.if_icmp .ge 7, 3) ∧ decode cX10_isBelow 9 = .ok (.iconst 1, 1) ∧ decode cX10_isBelow 10 = .ok (.goto 4, 3) ∧ decode cX10_isBelow 13 = .ok (.iconst 0, 1) ∧ decode cX10_isBelow 14 = .ok (.ireturn, 1) := by decide +kernel
theorem dX10_isBelow_0 : decode cX10_isBelow 0 = .ok (.iload_n 0, 1) := dX10_isBelow_all0.1
theorem dX10_isBelow_1 : decode cX10_isBelow 1 = .ok (.ifCond .lt 12, 3) := dX10_isBelow_all0.2.1
theorem dX10_isBelow_4 : decode cX10_isBelow 4 = .ok (.iload_n 0, 1) := dX10_isBelow_all0.2.2.1
theorem dX10_isBelow_5 : decode cX10_isBelow 5 = .ok (.iload_n 1, 1) := dX10_isBelow_all0.2.2.2.1
theorem dX10_isBelow_6 : decode cX10_isBelow 6 = .ok (.if_icmp .ge 7, 3) := dX10_isBelow_all0.2.2.2.2.1
theorem dX10_isBelow_9 : decode cX10_isBelow 9 = .ok (.iconst 1, 1) := dX10_isBelow_all0.2.2.2.2.2.1
theorem dX10_isBelow_10 : decode cX10_isBelow 10 = .ok (.goto 4, 3) := dX10_isBelow_all0.2.2.2.2.2.2.1
theorem dX10_isBelow_13 : decode cX10_isBelow 13 = .ok (.iconst 0, 1) := dX10_isBelow_all0.2.2.2.2.2.2.2.1
theorem dX10_isBelow_14 : decode cX10_isBelow 14 = .ok (.ireturn, 1) := dX10_isBelow_all0.2.2.2.2.2.2.2.2
theorem dX10_isFrom_all0 : decode cX10_isFrom 0 = .ok (.iload_n 0, 1) ∧ decode cX10_isFrom 1 = .ok (.iload_n 1, 1) ∧ decode cX10_isFrom 2 = .ok (.if_icmp .lt 12, 3) ∧ decode cX10_isFrom 5 = .ok (.iload_n 0, 1) ∧ decode cX10_isFrom 6 = .ok (.iload_n 2, 1) ∧ decode cX10_isFrom 7 = .ok (.if_icmp .gt 7, 3) ∧ decode cX10_isFrom 10 = .ok (.iconst 1, 1) ∧ decode cX10_isFrom 11 = .ok (.goto 4, 3) ∧ decode cX10_isFrom 14 = .ok (.iconst 0, 1) ∧ decode cX10_isFrom 15 = .ok (.ireturn, 1) := by decide +kernel
theorem dX10_isFrom_0 : decode cX10_isFrom 0 = .ok (.iload_n 0, 1) := dX10_isFrom_all0.1
theorem dX10_isFrom_1 : decode cX10_isFrom 1 = .ok (.iload_n 1, 1) := dX10_isFrom_all0.2.1
theorem dX10_isFrom_2 : decode cX10_isFrom 2 = .ok (.if_icmp .lt 12, 3) := dX10_isFrom_all0.2.2.1
theorem dX10_isFrom_5 : decode cX10_isFrom 5 = .ok (.iload_n 0, 1) := dX10_isFrom_all0.2.2.2.1
theorem dX10_isFrom_6 : decode cX10_isFrom 6 = .ok (.iload_n 2, 1) := dX10_isFrom_all0.2.2.2.2.1
theorem dX10_isFrom_7 : decode cX10_isFrom 7 = .ok (.if_icmp .gt 7, 3) := dX10_isFrom_all0.2.2.2.2.2.1
theorem dX10_isFrom_10 : decode cX10_isFrom 10 = .ok (.iconst 1, 1) := dX10_isFrom_all0.2.2.2.2.2.2.1
theorem dX10_isFrom_11 : decode cX10_isFrom 11 = .ok (.goto 4, 3) := dX10_isFrom_all0.2.2.2.2.2.2.2.1
theorem dX10_isFrom_14 : decode cX10_isFrom 14 = .ok (.iconst 0, 1) := dX10_isFrom_all0.2.2.2.2.2.2.2.2.1
theorem dX10_isFrom_15 : decode cX10_isFrom 15 = .ok (.ireturn, 1) := dX10_isFrom_all0.2.2.2.2.2.2.2.2.2
theorem ggX10_isDay_X10_isBelow : GoodIn wsX10_isDay wsX10_isBelow := goodIn_s (fun _ h => wm_t (wm_r h)) Gd_X10_isBelow
theorem gX10_isDay_X10_isBelow : GoodIn wsX10_isDay (va_wsS RX10 85 yX10_isBelow wsX10_isBelow) := goodIn_S (own := RX10) (idx := 85) (y := yX10_isBelow) (wm_t (wm_l (wm_i 0 rfl))) (wm_t (wm_l (wm_i 1 rfl))) (wm_t (wm_l (wm_i 2 rfl))) ggX10_isDay_X10_isBelow
theorem dX10_isDay_all0 : decode cX10_isDay 0 = .ok (.iload_n 0, 1) ∧ decode cX10_isDay 1 = .ok (.sipush 10000, 3) ∧ decode cX10_isDay 4 = .ok (.invokestatic 85, 3) ∧ decode cX10_isDay 7 = .ok (.ireturn, 1) := by decide +kernel
theorem dX10_isDay_0 : decode cX10_isDay 0 = .ok (.iload_n 0, 1) := dX10_isDay_all0.1
theorem dX10_isDay_1 : decode cX10_isDay 1 = .ok (.sipush 10000, 3) := dX10_isDay_all0.2.1
theorem dX10_isDay_4 : decode cX10_isDay 4 = .ok (.invokestatic 85, 3) := dX10_isDay_all0.2.2.1
theorem dX10_isDay_7 : decode cX10_isDay 7 = .ok (.ireturn, 1) := dX10_isDay_all0.2.2.2
theorem ggX10_areDays_X10_isDay : GoodIn wsX10_areDays wsX10_isDay := goodIn_s (fun _ h => wm_t (wm_r h)) Gd_X10_isDay
theorem gX10_areDays_X10_isDay : GoodIn wsX10_areDays (va_wsS RX10 138 yX10_isDay wsX10_isDay) := goodIn_S (own := RX10) (idx := 138) (y := yX10_isDay) (wm_t (wm_l (wm_i 0 rfl))) (wm_t (wm_l (wm_i 1 rfl))) (wm_t (wm_l (wm_i 2 rfl))) ggX10_areDays_X10_isDay
theorem dX10_areDays_all0 : decode cX10_areDays 0 = .ok (.iload_n 0, 1) ∧ decode cX10_areDays 1 = .ok (.invokestatic 138, 3) ∧ decode cX10_areDays 4 = .ok (.ifCond .eq 19, 3) ∧ decode cX10_areDays 7 = .ok (.iload_n 1, 1) ∧ decode cX10_areDays 8 = .ok (.invokestatic 138, 3) ∧ decode cX10_areDays 11 = .ok (.ifCond .eq 12, 3) ∧ decode cX10_areDays 14 = .ok (.iload_n 0, 1) ∧ decode cX10_areDays 15 = .ok (.iload_n 1, 1) ∧ decode cX10_areDays 16 = .ok (.if_icmp .gt 7, 3) ∧ decode cX10_areDays 19 = .ok (.iconst 1, 1) ∧ decode cX10_areDays 20 = .ok (.goto 4, 3) ∧ decode cX10_areDays 23 = .ok (.iconst 0, 1) := by decide +kernel
theorem dX10_areDays_0 : decode cX10_areDays 0 = .ok (.iload_n 0, 1) := dX10_areDays_all0.1
theorem dX10_areDays_1 : decode cX10_areDays 1 = .ok (.invokestatic 138, 3) := dX10_areDays_all0.2.1
theorem dX10_areDays_4 : decode cX10_areDays 4 = .ok (.ifCond .eq 19, 3) := dX10_areDays_all0.2.2.1
theorem dX10_areDays_7 : decode cX10_areDays 7 = .ok (.iload_n 1, 1) := dX10_areDays_all0.2.2.2.1
theorem dX10_areDays_8 : decode cX10_areDays 8 = .ok (.invokestatic 138, 3) := dX10_areDays_all0.2.2.2.2.1
theorem dX10_areDays_11 : decode cX10_areDays 11 = .ok (.ifCond .eq 12, 3) := dX10_areDays_all0.2.2.2.2.2.1
theorem dX10_areDays_14 : decode cX10_areDays 14 = .ok (.iload_n 0, 1) := dX10_areDays_all0.2.2.2.2.2.2.1
theorem dX10_areDays_15 : decode cX10_areDays 15 = .ok (.iload_n 1, 1) := dX10_areDays_all0.2.2.2.2.2.2.2.1
theorem dX10_areDays_16 : decode cX10_areDays 16 = .ok (.if_icmp .gt 7, 3) := dX10_areDays_all0.2.2.2.2.2.2.2.2.1
theorem dX10_areDays_19 : decode cX10_areDays 19 = .ok (.iconst 1, 1) := dX10_areDays_all0.2.2.2.2.2.2.2.2.2.1
theorem dX10_areDays_20 : decode cX10_areDays 20 = .ok (.goto 4, 3) := dX10_areDays_all0.2.2.2.2.2.2.2.2.2.2.1
theorem dX10_areDays_23 : decode cX10_areDays 23 = .ok (.iconst 0, 1) := dX10_areDays_all0.2.2.2.2.2.2.2.2.2.2.2
theorem dX10_areDays_24 : decode cX10_areDays 24 = .ok (.ireturn, 1) := by decide +kernel
theorem ggX10_isPerson_X10_isBelow : GoodIn wsX10_isPerson wsX10_isBelow := goodIn_s (fun _ h => wm_t (wm_r h)) Gd_X10_isBelow
theorem gX10_isPerson_X10_isBelow : GoodIn wsX10_isPerson (va_wsS RX10 85 yX10_isBelow wsX10_isBelow) := goodIn_S (own := RX10) (idx := 85) (y := yX10_isBelow) (wm_t (wm_l (wm_i 0 rfl))) (wm_t (wm_l (wm_i 1 rfl))) (wm_t (wm_l (wm_i 2 rfl))) ggX10_isPerson_X10_isBelow
theorem dX10_isPerson_all0 : decode cX10_isPerson 0 = .ok (.iload_n 0, 1) ∧ decode cX10_isPerson 1 = .ok (.bipush 10, 2) ∧ decode cX10_isPerson 3 = .ok (.invokestatic 85, 3) ∧ decode cX10_isPerson 6 = .ok (.ireturn, 1) := by decide +kernel
theorem dX10_isPerson_0 : decode cX10_isPerson 0 = .ok (.iload_n 0, 1) := dX10_isPerson_all0.1
theorem dX10_isPerson_1 : decode cX10_isPerson 1 = .ok (.bipush 10, 2) := dX10_isPerson_all0.2.1
theorem dX10_isPerson_3 : decode cX10_isPerson 3 = .ok (.invokestatic 85, 3) := dX10_isPerson_all0.2.2.1
theorem dX10_isPerson_6 : decode cX10_isPerson 6 = .ok (.ireturn, 1) := dX10_isPerson_all0.2.2.2
theorem ggX10_isOwner_X10_isBelow : GoodIn wsX10_isOwner wsX10_isBelow := goodIn_s (fun _ h => wm_t (wm_r h)) Gd_X10_isBelow
theorem gX10_isOwner_X10_isBelow : GoodIn wsX10_isOwner (va_wsS RX10 85 yX10_isBelow wsX10_isBelow) := goodIn_S (own := RX10) (idx := 85) (y := yX10_isBelow) (wm_t (wm_l (wm_i 0 rfl))) (wm_t (wm_l (wm_i 1 rfl))) (wm_t (wm_l (wm_i 2 rfl))) ggX10_isOwner_X10_isBelow
theorem dX10_isOwner_all0 : decode cX10_isOwner 0 = .ok (.iload_n 0, 1) ∧ decode cX10_isOwner 1 = .ok (.bipush 20, 2) ∧ decode cX10_isOwner 3 = .ok (.invokestatic 85, 3) ∧ decode cX10_isOwner 6 = .ok (.ireturn, 1) := by decide +kernel
theorem dX10_isOwner_0 : decode cX10_isOwner 0 = .ok (.iload_n 0, 1) := dX10_isOwner_all0.1
theorem dX10_isOwner_1 : decode cX10_isOwner 1 = .ok (.bipush 20, 2) := dX10_isOwner_all0.2.1
theorem dX10_isOwner_3 : decode cX10_isOwner 3 = .ok (.invokestatic 85, 3) := dX10_isOwner_all0.2.2.1
theorem dX10_isOwner_6 : decode cX10_isOwner 6 = .ok (.ireturn, 1) := dX10_isOwner_all0.2.2.2
theorem ggX10_isPair_X10_isOwner : GoodIn wsX10_isPair wsX10_isOwner := goodIn_s (fun _ h => wm_t (wm_r (wm_l h))) Gd_X10_isOwner
theorem gX10_isPair_X10_isOwner : GoodIn wsX10_isPair (va_wsS RX10 163 yX10_isOwner wsX10_isOwner) := goodIn_S (own := RX10) (idx := 163) (y := yX10_isOwner) (wm_t (wm_l (wm_i 0 rfl))) (wm_t (wm_l (wm_i 1 rfl))) (wm_t (wm_l (wm_i 2 rfl))) ggX10_isPair_X10_isOwner
theorem ggX10_isPair_X10_isPerson : GoodIn wsX10_isPair wsX10_isPerson := goodIn_s (fun _ h => wm_t (wm_r (wm_r h))) Gd_X10_isPerson
theorem gX10_isPair_X10_isPerson : GoodIn wsX10_isPair (va_wsS RX10 160 yX10_isPerson wsX10_isPerson) := goodIn_S (own := RX10) (idx := 160) (y := yX10_isPerson) (wm_t (wm_l (wm_i 3 rfl))) (wm_t (wm_l (wm_i 4 rfl))) (wm_t (wm_l (wm_i 2 rfl))) ggX10_isPair_X10_isPerson
theorem dX10_isPair_all0 : decode cX10_isPair 0 = .ok (.iload_n 0, 1) ∧ decode cX10_isPair 1 = .ok (.invokestatic 163, 3) ∧ decode cX10_isPair 4 = .ok (.ifCond .eq 26, 3) ∧ decode cX10_isPair 7 = .ok (.iload_n 1, 1) ∧ decode cX10_isPair 8 = .ok (.invokestatic 163, 3) ∧ decode cX10_isPair 11 = .ok (.ifCond .eq 19, 3) ∧ decode cX10_isPair 14 = .ok (.iload_n 1, 1) ∧ decode cX10_isPair 15 = .ok (.invokestatic 160, 3) ∧ decode cX10_isPair 18 = .ok (.ifCond .ne 12, 3) ∧ decode cX10_isPair 21 = .ok (.iload_n 0, 1) ∧ decode cX10_isPair 22 = .ok (.iload_n 1, 1) ∧ decode cX10_isPair 23 = .ok (.if_icmp .eq 7, 3) := by decide +kernel
theorem dX10_isPair_0 : decode cX10_isPair 0 = .ok (.iload_n 0, 1) := dX10_isPair_all0.1
theorem dX10_isPair_1 : decode cX10_isPair 1 = .ok (.invokestatic 163, 3) := dX10_isPair_all0.2.1
theorem dX10_isPair_4 : decode cX10_isPair 4 = .ok (.ifCond .eq 26, 3) := dX10_isPair_all0.2.2.1
theorem dX10_isPair_7 : decode cX10_isPair 7 = .ok (.iload_n 1, 1) := dX10_isPair_all0.2.2.2.1
theorem dX10_isPair_8 : decode cX10_isPair 8 = .ok (.invokestatic 163, 3) := dX10_isPair_all0.2.2.2.2.1
theorem dX10_isPair_11 : decode cX10_isPair 11 = .ok (.ifCond .eq 19, 3) := dX10_isPair_all0.2.2.2.2.2.1
theorem dX10_isPair_14 : decode cX10_isPair 14 = .ok (.iload_n 1, 1) := dX10_isPair_all0.2.2.2.2.2.2.1
theorem dX10_isPair_15 : decode cX10_isPair 15 = .ok (.invokestatic 160, 3) := dX10_isPair_all0.2.2.2.2.2.2.2.1
theorem dX10_isPair_18 : decode cX10_isPair 18 = .ok (.ifCond .ne 12, 3) := dX10_isPair_all0.2.2.2.2.2.2.2.2.1
theorem dX10_isPair_21 : decode cX10_isPair 21 = .ok (.iload_n 0, 1) := dX10_isPair_all0.2.2.2.2.2.2.2.2.2.1
theorem dX10_isPair_22 : decode cX10_isPair 22 = .ok (.iload_n 1, 1) := dX10_isPair_all0.2.2.2.2.2.2.2.2.2.2.1
theorem dX10_isPair_23 : decode cX10_isPair 23 = .ok (.if_icmp .eq 7, 3) := dX10_isPair_all0.2.2.2.2.2.2.2.2.2.2.2
theorem dX10_isPair_all1 : decode cX10_isPair 26 = .ok (.iconst 1, 1) ∧ decode cX10_isPair 27 = .ok (.goto 4, 3) ∧ decode cX10_isPair 30 = .ok (.iconst 0, 1) ∧ decode cX10_isPair 31 = .ok (.ireturn, 1) := by decide +kernel
theorem dX10_isPair_26 : decode cX10_isPair 26 = .ok (.iconst 1, 1) := dX10_isPair_all1.1
theorem dX10_isPair_27 : decode cX10_isPair 27 = .ok (.goto 4, 3) := dX10_isPair_all1.2.1
theorem dX10_isPair_30 : decode cX10_isPair 30 = .ok (.iconst 0, 1) := dX10_isPair_all1.2.2.1
theorem dX10_isPair_31 : decode cX10_isPair 31 = .ok (.ireturn, 1) := dX10_isPair_all1.2.2.2
theorem ggX10_isCrate_X10_isBelow : GoodIn wsX10_isCrate wsX10_isBelow := goodIn_s (fun _ h => wm_t (wm_r (wm_r h))) Gd_X10_isBelow
theorem gX10_isCrate_X10_isBelow : GoodIn wsX10_isCrate (va_wsS RX10 85 yX10_isBelow wsX10_isBelow) := goodIn_S (own := RX10) (idx := 85) (y := yX10_isBelow) (wm_t (wm_l (wm_i 2 rfl))) (wm_t (wm_l (wm_i 3 rfl))) (wm_t (wm_l (wm_i 4 rfl))) ggX10_isCrate_X10_isBelow
theorem dX10_isCrate_all0 : decode cX10_isCrate 0 = .ok (.iload_n 1, 1) ∧ decode cX10_isCrate 1 = .ok (.aload_n 0, 1) ∧ decode cX10_isCrate 2 = .ok (.getfield 26, 3) ∧ decode cX10_isCrate 5 = .ok (.getfield 177, 3) ∧ decode cX10_isCrate 8 = .ok (.invokestatic 85, 3) ∧ decode cX10_isCrate 11 = .ok (.ireturn, 1) := by decide +kernel
theorem dX10_isCrate_0 : decode cX10_isCrate 0 = .ok (.iload_n 1, 1) := dX10_isCrate_all0.1
theorem dX10_isCrate_1 : decode cX10_isCrate 1 = .ok (.aload_n 0, 1) := dX10_isCrate_all0.2.1
theorem dX10_isCrate_2 : decode cX10_isCrate 2 = .ok (.getfield 26, 3) := dX10_isCrate_all0.2.2.1
theorem dX10_isCrate_5 : decode cX10_isCrate 5 = .ok (.getfield 177, 3) := dX10_isCrate_all0.2.2.2.1
theorem dX10_isCrate_8 : decode cX10_isCrate 8 = .ok (.invokestatic 85, 3) := dX10_isCrate_all0.2.2.2.2.1
theorem dX10_isCrate_11 : decode cX10_isCrate 11 = .ok (.ireturn, 1) := dX10_isCrate_all0.2.2.2.2.2
theorem dX10_hasBit_all0 : decode cX10_hasBit 0 = .ok (.iload_n 0, 1) ∧ decode cX10_hasBit 1 = .ok (.iload_n 1, 1) ∧ decode cX10_hasBit 2 = .ok (.iushr, 1) ∧ decode cX10_hasBit 3 = .ok (.iconst 1, 1) ∧ decode cX10_hasBit 4 = .ok (.iand, 1) ∧ decode cX10_hasBit 5 = .ok (.ifCond .eq 7, 3) ∧ decode cX10_hasBit 8 = .ok (.iconst 1, 1) ∧ decode cX10_hasBit 9 = .ok (.goto 4, 3) ∧ decode cX10_hasBit 12 = .ok (.iconst 0, 1) ∧ decode cX10_hasBit 13 = .ok (.ireturn, 1) := by decide +kernel
theorem dX10_hasBit_0 : decode cX10_hasBit 0 = .ok (.iload_n 0, 1) := dX10_hasBit_all0.1
theorem dX10_hasBit_1 : decode cX10_hasBit 1 = .ok (.iload_n 1, 1) := dX10_hasBit_all0.2.1
theorem dX10_hasBit_2 : decode cX10_hasBit 2 = .ok (.iushr, 1) := dX10_hasBit_all0.2.2.1
theorem dX10_hasBit_3 : decode cX10_hasBit 3 = .ok (.iconst 1, 1) := dX10_hasBit_all0.2.2.2.1
theorem dX10_hasBit_4 : decode cX10_hasBit 4 = .ok (.iand, 1) := dX10_hasBit_all0.2.2.2.2.1
theorem dX10_hasBit_5 : decode cX10_hasBit 5 = .ok (.ifCond .eq 7, 3) := dX10_hasBit_all0.2.2.2.2.2.1
theorem dX10_hasBit_8 : decode cX10_hasBit 8 = .ok (.iconst 1, 1) := dX10_hasBit_all0.2.2.2.2.2.2.1
theorem dX10_hasBit_9 : decode cX10_hasBit 9 = .ok (.goto 4, 3) := dX10_hasBit_all0.2.2.2.2.2.2.2.1
theorem dX10_hasBit_12 : decode cX10_hasBit 12 = .ok (.iconst 0, 1) := dX10_hasBit_all0.2.2.2.2.2.2.2.2.1
theorem dX10_hasBit_13 : decode cX10_hasBit 13 = .ok (.ireturn, 1) := dX10_hasBit_all0.2.2.2.2.2.2.2.2.2
theorem dX10_finding_all0 : decode cX10_finding 0 = .ok (.aload_n 0, 1) ∧ decode cX10_finding 1 = .ok (.iload_n 1, 1) ∧ decode cX10_finding 2 = .ok (.putfield 322, 3) ∧ decode cX10_finding 5 = .ok (.ldc_w 325, 3) ∧ decode cX10_finding 8 = .ok (.iload_n 1, 1) ∧ decode cX10_finding 9 = .ok (.isub, 1) ∧ decode cX10_finding 10 = .ok (.ireturn, 1) := by decide +kernel
theorem dX10_finding_0 : decode cX10_finding 0 = .ok (.aload_n 0, 1) := dX10_finding_all0.1
theorem dX10_finding_1 : decode cX10_finding 1 = .ok (.iload_n 1, 1) := dX10_finding_all0.2.1
theorem dX10_finding_2 : decode cX10_finding 2 = .ok (.putfield 322, 3) := dX10_finding_all0.2.2.1
theorem dX10_finding_5 : decode cX10_finding 5 = .ok (.ldc_w 325, 3) := dX10_finding_all0.2.2.2.1
theorem dX10_finding_8 : decode cX10_finding 8 = .ok (.iload_n 1, 1) := dX10_finding_all0.2.2.2.2.1
theorem dX10_finding_9 : decode cX10_finding 9 = .ok (.isub, 1) := dX10_finding_all0.2.2.2.2.2.1
theorem dX10_finding_10 : decode cX10_finding 10 = .ok (.ireturn, 1) := dX10_finding_all0.2.2.2.2.2.2
theorem dX10_passed_all0 : decode cX10_passed 0 = .ok (.aload_n 0, 1) ∧ decode cX10_passed 1 = .ok (.iconst 0, 1) ∧ decode cX10_passed 2 = .ok (.putfield 322, 3) ∧ decode cX10_passed 5 = .ok (.iload_n 1, 1) ∧ decode cX10_passed 6 = .ok (.ireturn, 1) := by decide +kernel
theorem dX10_passed_0 : decode cX10_passed 0 = .ok (.aload_n 0, 1) := dX10_passed_all0.1
theorem dX10_passed_1 : decode cX10_passed 1 = .ok (.iconst 0, 1) := dX10_passed_all0.2.1
theorem dX10_passed_2 : decode cX10_passed 2 = .ok (.putfield 322, 3) := dX10_passed_all0.2.2.1
theorem dX10_passed_5 : decode cX10_passed 5 = .ok (.iload_n 1, 1) := dX10_passed_all0.2.2.2.1
theorem dX10_passed_6 : decode cX10_passed 6 = .ok (.ireturn, 1) := dX10_passed_all0.2.2.2.2

/-- the words' text, its bytes -/
def WORDT : String := "sold  shown out   mendedpart  "
def WORDB : List Int32 := [115, 111, 108, 100, 32, 32, 115, 104, 111, 119, 110, 32, 111, 117, 116, 32, 32, 32, 109, 101, 110, 100, 101, 100, 112, 97, 114, 116, 32, 32]
/-- the end of a run of bytes -/
def runE (P : Int → Bool) (T : Nat → Int32) (L : Nat) : Nat → Nat → Nat
  | 0, i => i
  | f + 1, i => if i < L ∧ P (T i).toInt = true then runE P T L f (i + 1) else i
def runTo (P : Int → Bool) (T : Nat → Int32) (L i : Nat) : Nat := runE P T L (L - i) i
theorem runTo_in {P : Int → Bool} {T : Nat → Int32} {L i : Nat} (h : i < L) (hp : P (T i).toInt = true) : runTo P T L i = runTo P T L (i + 1) := by
  unfold runTo
  rw [show L - i = (L - (i + 1)) + 1 by omega]
  show (if i < L ∧ P (T i).toInt = true then runE P T L (L - (i + 1)) (i + 1) else i) = _
  rw [if_pos ⟨h, hp⟩]
theorem runTo_out {P : Int → Bool} {T : Nat → Int32} {L i : Nat} (h : ¬ (i < L ∧ P (T i).toInt = true)) : runTo P T L i = i := by
  unfold runTo
  cases L - i with
  | zero => rfl
  | succ f =>
    show (if i < L ∧ P (T i).toInt = true then runE P T L f (i + 1) else i) = i
    rw [if_neg h]
theorem runE_le {P : Int → Bool} {T : Nat → Int32} {L : Nat} (f i : Nat) (h : i ≤ L) : i ≤ runE P T L f i ∧ runE P T L f i ≤ L := by
  induction f generalizing i with
  | zero => exact ⟨Nat.le_refl _, h⟩
  | succ f ih =>
    show i ≤ (if i < L ∧ P (T i).toInt = true then runE P T L f (i + 1) else i) ∧ (if i < L ∧ P (T i).toInt = true then runE P T L f (i + 1) else i) ≤ L
    split
    · have h9 := ih (i + 1) (by omega)
      omega
    · omega
theorem runTo_le {P : Int → Bool} {T : Nat → Int32} {L i : Nat} (h : i ≤ L) : i ≤ runTo P T L i ∧ runTo P T L i ≤ L := runE_le _ _ h
def spB (x : Int) : Bool := decide (x = 32 ∨ x = 10)
def leB (x : Int) : Bool := decide (97 ≤ x ∧ x ≤ 122)
def fiB (x : Int) : Bool := decide (48 ≤ x ∧ x ≤ 57)
theorem sp_in {T : Nat → Int32} {L i : Nat} (h : i < L) (hp : (T i).toInt = 32 ∨ (T i).toInt = 10) : runTo spB T L i = runTo spB T L (i + 1) := runTo_in h (decide_eq_true hp)
theorem sp_out {T : Nat → Int32} {L i : Nat} (h : ¬ i < L ∨ ¬ ((T i).toInt = 32 ∨ (T i).toInt = 10)) : runTo spB T L i = i := runTo_out (fun z => by have z2 := of_decide_eq_true z.2; rcases h with h | h; exact h z.1; exact h z2)
theorem le_in {T : Nat → Int32} {L i : Nat} (h : i < L) (hp : 97 ≤ (T i).toInt ∧ (T i).toInt ≤ 122) : runTo leB T L i = runTo leB T L (i + 1) := runTo_in h (decide_eq_true hp)
theorem le_out {T : Nat → Int32} {L i : Nat} (h : ¬ i < L ∨ ¬ (97 ≤ (T i).toInt ∧ (T i).toInt ≤ 122)) : runTo leB T L i = i := runTo_out (fun z => by have z2 := of_decide_eq_true z.2; rcases h with h | h; exact h z.1; exact h z2)
theorem fi_in {T : Nat → Int32} {L i : Nat} (h : i < L) (hp : 48 ≤ (T i).toInt ∧ (T i).toInt ≤ 57) : runTo fiB T L i = runTo fiB T L (i + 1) := runTo_in h (decide_eq_true hp)
theorem fi_out {T : Nat → Int32} {L i : Nat} (h : ¬ i < L ∨ ¬ (48 ≤ (T i).toInt ∧ (T i).toInt ≤ 57)) : runTo fiB T L i = i := runTo_out (fun z => by have z2 := of_decide_eq_true z.2; rcases h with h | h; exact h z.1; exact h z2)
/-- where the next token begins, where it ends -/
def tS (T : Nat → Int32) (L c : Nat) : Nat := runTo spB T L c
def tE (T : Nat → Int32) (L c : Nat) : Nat := if tS T L c < L then (if 97 ≤ (T (tS T L c)).toInt ∧ (T (tS T L c)).toInt ≤ 122 then runTo leB T L (tS T L c) else if 48 ≤ (T (tS T L c)).toInt ∧ (T (tS T L c)).toInt ≤ 57 then runTo fiB T L (tS T L c) else tS T L c + 1) else tS T L c
/-- the letters from s to e are word w -/
abbrev wdIs (T : Nat → Int32) (s e w : Nat) : Prop := ∀ k, k < 6 → (if s + k < e then (T (s + k)).toInt else 32) = (WORDB.getD (6 * w + k) 0).toInt
def wdK (T : Nat → Int32) (s e : Nat) : Nat → Int
  | 0 => 9
  | w + 1 => if wdIs T s e w then (w : Int) else wdK T s e w
theorem wdK_s (T : Nat → Int32) (s e w : Nat) : wdK T s e (w + 1) = if wdIs T s e w then (w : Int) else wdK T s e w := rfl
/-- the number of n figures from s on -/
def nmV (T : Nat → Int32) (s : Nat) : Nat → Int
  | 0 => 0
  | n + 1 => nmV T s n * 10 + (T (s + n)).toInt - 48
theorem nmV_s (T : Nat → Int32) (s n : Nat) : nmV T s (n + 1) = nmV T s n * 10 + (T (s + n)).toInt - 48 := rfl
/-- what the next token is: 0 to 3 an act, 4 part, 5 a number, 6 ;, 7 >, 8 the end, 9 none -/
def tK (T : Nat → Int32) (L c : Nat) : Int := if tS T L c < L then (if 97 ≤ (T (tS T L c)).toInt ∧ (T (tS T L c)).toInt ≤ 122 then (if tS T L c + 6 < tE T L c then 9 else wdK T (tS T L c) (tE T L c) 5) else if 48 ≤ (T (tS T L c)).toInt ∧ (T (tS T L c)).toInt ≤ 57 then (if tS T L c + 4 < tE T L c then 9 else 5) else if (T (tS T L c)).toInt = 59 then 6 else if (T (tS T L c)).toInt = 62 then 7 else 9) else 8
def tN (T : Nat → Int32) (L c : Nat) : Int := nmV T (tS T L c) (tE T L c - tS T L c)
theorem tok_end {T : Nat → Int32} {L c s : Nat} (hs : tS T L c = s) (h : ¬ s < L) : tE T L c = s ∧ tK T L c = 8 := by
  unfold tK tE
  rw [hs, if_neg h, if_neg h]
  exact ⟨rfl, rfl⟩
theorem tok_let {T : Nat → Int32} {L c s e : Nat} (hs : tS T L c = s) (h : s < L) (hl : 97 ≤ (T s).toInt ∧ (T s).toInt ≤ 122) (he : runTo leB T L s = e) : tE T L c = e ∧ tK T L c = (if s + 6 < e then 9 else wdK T s e 5) := by
  have e1 : tE T L c = e := by
    unfold tE
    rw [hs, if_pos h, if_pos hl, he]
  refine ⟨e1, ?_⟩
  unfold tK
  rw [e1, hs, if_pos h, if_pos hl]
theorem tok_fig {T : Nat → Int32} {L c s e : Nat} (hs : tS T L c = s) (h : s < L) (hl : 48 ≤ (T s).toInt ∧ (T s).toInt ≤ 57) (he : runTo fiB T L s = e) : tE T L c = e ∧ tK T L c = (if s + 4 < e then 9 else 5) ∧ tN T L c = nmV T s (e - s) := by
  have e1 : tE T L c = e := by
    unfold tE
    rw [hs, if_pos h, if_neg (by omega), if_pos hl, he]
  refine ⟨e1, ?_, ?_⟩
  · unfold tK
    rw [e1, hs, if_pos h, if_neg (by omega), if_pos hl]
  · unfold tN
    rw [e1, hs]
theorem tok_sgn {T : Nat → Int32} {L c s : Nat} (hs : tS T L c = s) (h : s < L) (hl : ¬ (97 ≤ (T s).toInt ∧ (T s).toInt ≤ 122)) (hf : ¬ (48 ≤ (T s).toInt ∧ (T s).toInt ≤ 57)) : tE T L c = s + 1 ∧ tK T L c = (if (T s).toInt = 59 then 6 else if (T s).toInt = 62 then 7 else 9) := by
  unfold tK tE
  rw [hs, if_pos h, if_pos h, if_neg hl, if_neg hl, if_neg hf, if_neg hf]
  exact ⟨rfl, rfl⟩
theorem tS_le {T : Nat → Int32} {L c : Nat} (h : c ≤ L) : c ≤ tS T L c ∧ tS T L c ≤ L := runTo_le h
theorem tE_le {T : Nat → Int32} {L c : Nat} (h : c ≤ L) : tS T L c ≤ tE T L c ∧ tE T L c ≤ L ∧ (tS T L c < L → tS T L c < tE T L c) := by
  have h1 := tS_le (T := T) h
  unfold tE
  split
  · rename_i g
    split
    · rename_i gl
      have h2 := runTo_le (P := leB) (T := T) (show tS T L c + 1 ≤ L by omega)
      rw [le_in g gl]
      omega
    · split
      · rename_i gf
        have h2 := runTo_le (P := fiB) (T := T) (show tS T L c + 1 ≤ L by omega)
        rw [fi_in g gf]
        omega
      · omega
  · omega
theorem wdK_rng (T : Nat → Int32) (s e : Nat) : ∀ w, w ≤ 5 → 0 ≤ wdK T s e w ∧ (wdK T s e w < w ∨ wdK T s e w = 9)
  | 0, _ => ⟨by show (0 : Int) ≤ 9; decide, Or.inr rfl⟩
  | w + 1, h => by
    rw [wdK_s]
    have h9 := wdK_rng T s e w (by omega)
    split <;> omega
/-- the act of a line: behind its word, at c -/
def acR (T : Nat → Int32) (L c : Nat) : Int := if tK T L c = 7 ∧ ¬ tK T L (tE T L c) = 5 then 1 else 0
def acP (T : Nat → Int32) (L c : Nat) : Nat := if tK T L c = 7 then (if tK T L (tE T L c) = 5 then tE T L (tE T L c) else tE T L c) else c
def acD (T : Nat → Int32) (L c : Nat) : Int := if tK T L c = 7 then tN T L (tE T L c) else -1
/-- the part of a line: behind the word part, at c -/
def paR (T : Nat → Int32) (L c : Nat) : Int := if ¬ tK T L c = 5 then 1 else if 100 < tN T L c then 2 else if ¬ tK T L (tE T L c) = 6 then 1 else 0
def paP (T : Nat → Int32) (L c : Nat) : Nat := if ¬ tK T L c = 5 then c else if 100 < tN T L c then c else if ¬ tK T L (tE T L c) = 6 then tE T L c else tE T L (tE T L c)
/-- a line that begins at c: its fault, the fault's place, the next line's beginning -/
def lnR (T : Nat → Int32) (L c : Nat) : Int := if 4 ≤ tK T L c then 1 else if acR T L (tE T L c) = 1 then 1 else if ¬ tK T L (acP T L (tE T L c)) = 4 then 1 else paR T L (tE T L (acP T L (tE T L c)))
def lnX (T : Nat → Int32) (L c : Nat) : Nat := if 4 ≤ tK T L c then tS T L c else if acR T L (tE T L c) = 1 then tS T L (acP T L (tE T L c)) else if ¬ tK T L (acP T L (tE T L c)) = 4 then tS T L (acP T L (tE T L c)) else tS T L (paP T L (tE T L (acP T L (tE T L c))))
def lnN (T : Nat → Int32) (L c : Nat) : Nat := paP T L (tE T L (acP T L (tE T L c)))
def lnD (T : Nat → Int32) (L c : Nat) : Int := acD T L (tE T L c)
def lnP (T : Nat → Int32) (L c : Nat) : Int := tN T L (tE T L (acP T L (tE T L c)))
/-- where line n begins -/
def poL (T : Nat → Int32) (L : Nat) : Nat → Nat
  | 0 => 0
  | n + 1 => lnN T L (poL T L n)
theorem poL_s (T : Nat → Int32) (L n : Nat) : poL T L (n + 1) = lnN T L (poL T L n) := rfl
/-- the first n lines are good -/
def duOk (T : Nat → Int32) (L n : Nat) : Prop := ∀ j, j < n → ¬ tK T L (poL T L j) = 8 ∧ lnR T L (poL T L j) = 0
theorem duOk_s {T : Nat → Int32} {L n : Nat} (h : duOk T L n) (h1 : ¬ tK T L (poL T L n) = 8) (h2 : lnR T L (poL T L n) = 0) : duOk T L (n + 1) := fun j hj => if e : j = n then (by rw [e]; exact ⟨h1, h2⟩) else h j (by omega)
/-- the fault at line n, and its place -/
def dcF (T : Nat → Int32) (L n : Nat) : Int := if n < 12 then lnR T L (poL T L n) else if 4 ≤ tK T L (poL T L n) then 1 else 3
def dpF (T : Nat → Int32) (L n : Nat) : Nat := if n < 12 then lnX T L (poL T L n) else tS T L (poL T L n)
/-- the first n lines stand in the rows -/
def duLn (T : Nat → Int32) (L n : Nat) (w d p : Nat → Int32) : Prop := ∀ j, j < n → (w j).toInt = tK T L (poL T L j) ∧ (d j).toInt = lnD T L (poL T L j) ∧ (p j).toInt = lnP T L (poL T L j)
/-- what reading the tape answers and leaves -/
def duP (T : Nat → Int32) (L : Nat) (r lfa dl lfa' dl' : Int32) (w d p w' d' p' : Nat → Int32) : Prop := ∃ n, n ≤ 12 ∧ duOk T L n ∧ ((tK T L (poL T L n) = 8 ∧ r.toInt = n ∧ lfa' = lfa ∧ dl'.toInt = n ∧ duLn T L n w' d' p') ∨ (¬ tK T L (poL T L n) = 8 ∧ ¬ dcF T L n = 0 ∧ lfa'.toInt = dcF T L n ∧ r.toInt = -1000100 - (dpF T L n : Int) ∧ dl' = dl ∧ w' = w ∧ d' = d ∧ p' = p))
theorem poL_le (T : Nat → Int32) (L : Nat) : ∀ n, poL T L n ≤ L
  | 0 => Nat.zero_le _
  | n + 1 => by
    have h0 := poL_le T L n
    rw [poL_s]
    have e1 := (tE_le (T := T) h0).2.1
    have a1 : acP T L (tE T L (poL T L n)) ≤ L := by
      have e2 := (tE_le (T := T) e1).2.1
      have e3 := (tE_le (T := T) e2).2.1
      unfold acP
      (repeat' split) <;> omega
    have e4 := (tE_le (T := T) a1).2.1
    have e5 := (tE_le (T := T) e4).2.1
    have e6 := (tE_le (T := T) e5).2.1
    unfold lnN paP
    (repeat' split) <;> omega
/-- the token at c stands in the reader's fields -/
def tokQ (T : Nat → Int32) (L c : Nat) (bs be tk nb : Int32) : Prop := bs.toInt = (tS T L c : Int) ∧ be.toInt = (tE T L c : Int) ∧ tk.toInt = tK T L c ∧ (tk.toInt = 5 → nb.toInt = tN T L c)
def raQ (T : Nat → Int32) (L : Nat) (dr bs be tk : Int32) (xw xd : Nat → Int32) (r bs' be' tk' nb' : Int32) (xw' xd' : Nat → Int32) : Prop := (∀ j, ¬ j = dr.toNatClampNeg → xw' j = xw j ∧ xd' j = xd j) ∧ ((4 ≤ tk.toInt ∧ r.toInt = 1 ∧ bs' = bs) ∨ (tk.toInt < 4 ∧ 12 ≤ dr.toInt ∧ r.toInt = 3 ∧ bs' = bs) ∨ (tk.toInt < 4 ∧ dr.toInt < 12 ∧ r.toInt = acR T L be.toNatClampNeg ∧ tokQ T L (acP T L be.toNatClampNeg) bs' be' tk' nb' ∧ xw' dr.toNatClampNeg = tk ∧ (r.toInt = 0 → (xd' dr.toNatClampNeg).toInt = acD T L be.toNatClampNeg)))
def rpQ (T : Nat → Int32) (L : Nat) (dr bs be tk : Int32) (xp : Nat → Int32) (r bs' be' tk' nb' dr' : Int32) (xp' : Nat → Int32) : Prop := (∀ j, ¬ j = dr.toNatClampNeg → xp' j = xp j) ∧ ((¬ tk.toInt = 4 ∧ r.toInt = 1 ∧ bs' = bs ∧ dr' = dr) ∨ (tk.toInt = 4 ∧ r.toInt = paR T L be.toNatClampNeg ∧ tokQ T L (paP T L be.toNatClampNeg) bs' be' tk' nb' ∧ (r.toInt = 0 → dr'.toInt = dr.toInt + 1 ∧ (xp' dr.toNatClampNeg).toInt = tN T L be.toNatClampNeg) ∧ (¬ r.toInt = 0 → dr' = dr)))
/-- between two lines -/
def rdI (T : Nat → Int32) (L : Nat) (f k dr bs be tk nb : Int32) (xw xd xp : Nat → Int32) : Prop := duOk T L dr.toNatClampNeg ∧ duLn T L dr.toNatClampNeg xw xd xp ∧ ((f.toInt = 0 ∧ k.toInt = dr.toInt ∧ tokQ T L (poL T L dr.toNatClampNeg) bs be tk nb) ∨ (¬ f.toInt = 0 ∧ f.toInt = dcF T L dr.toNatClampNeg ∧ bs.toInt = (dpF T L dr.toNatClampNeg : Int) ∧ ¬ tK T L (poL T L dr.toNatClampNeg) = 8))
theorem acR_01 (T : Nat → Int32) (L c : Nat) : acR T L c = 0 ∨ acR T L c = 1 := by
  unfold acR
  split
  · exact Or.inr rfl
  · exact Or.inl rfl
theorem du_a1 {T : Nat → Int32} {L n : Nat} (h : 4 ≤ tK T L (poL T L n)) : dcF T L n = 1 ∧ dpF T L n = tS T L (poL T L n) := by
  unfold dcF dpF lnR lnX
  by_cases c : n < 12
  · constructor <;> simp only [if_pos c, if_pos h]
  · constructor <;> simp only [if_neg c, if_pos h]
theorem du_a2 {T : Nat → Int32} {L n : Nat} (h : tK T L (poL T L n) < 4) (c : ¬ n < 12) : dcF T L n = 3 ∧ dpF T L n = tS T L (poL T L n) := by
  unfold dcF dpF
  have h4 : ¬ 4 ≤ tK T L (poL T L n) := by omega
  constructor <;> simp only [if_neg c, if_neg h4]
theorem du_a3 {T : Nat → Int32} {L n : Nat} (h : tK T L (poL T L n) < 4) (c : n < 12) (ha : acR T L (tE T L (poL T L n)) = 1) : dcF T L n = 1 ∧ dpF T L n = tS T L (acP T L (tE T L (poL T L n))) := by
  unfold dcF dpF lnR lnX
  have h4 : ¬ 4 ≤ tK T L (poL T L n) := by omega
  constructor <;> simp only [if_pos c, if_neg h4, if_pos ha]
theorem du_b1 {T : Nat → Int32} {L n : Nat} (h : tK T L (poL T L n) < 4) (c : n < 12) (ha : acR T L (tE T L (poL T L n)) = 0) (hp : ¬ tK T L (acP T L (tE T L (poL T L n))) = 4) : dcF T L n = 1 ∧ dpF T L n = tS T L (acP T L (tE T L (poL T L n))) := by
  unfold dcF dpF lnR lnX
  have h4 : ¬ 4 ≤ tK T L (poL T L n) := by omega
  have h5 : ¬ acR T L (tE T L (poL T L n)) = 1 := by omega
  constructor <;> simp only [if_pos c, if_neg h4, if_neg h5, if_pos hp]
theorem du_b2 {T : Nat → Int32} {L n : Nat} (h : tK T L (poL T L n) < 4) (c : n < 12) (ha : acR T L (tE T L (poL T L n)) = 0) (hp : tK T L (acP T L (tE T L (poL T L n))) = 4) : dcF T L n = paR T L (tE T L (acP T L (tE T L (poL T L n)))) ∧ dpF T L n = tS T L (lnN T L (poL T L n)) ∧ lnR T L (poL T L n) = paR T L (tE T L (acP T L (tE T L (poL T L n)))) := by
  have h4 : ¬ 4 ≤ tK T L (poL T L n) := by omega
  have h5 : ¬ acR T L (tE T L (poL T L n)) = 1 := by omega
  have h6 : ¬ ¬ tK T L (acP T L (tE T L (poL T L n))) = 4 := by omega
  have e : lnR T L (poL T L n) = paR T L (tE T L (acP T L (tE T L (poL T L n)))) := by
    unfold lnR
    rw [if_neg h4, if_neg h5, if_neg h6]
  unfold dcF dpF
  rw [if_pos c, if_pos c, e]
  refine ⟨rfl, ?_, rfl⟩
  unfold lnX lnN
  rw [if_neg h4, if_neg h5, if_neg h6]
theorem duLn_same {T : Nat → Int32} {L n : Nat} {w d p w' d' p' : Nat → Int32} (h : duLn T L n w d p) (h1 : ∀ j, ¬ j = n → w' j = w j ∧ d' j = d j) (h2 : ∀ j, ¬ j = n → p' j = p j) : duLn T L n w' d' p' := fun j hj => by
  have a := h1 j (by omega)
  rw [a.1, a.2, h2 j (by omega)]
  exact h j hj
theorem rd_A {T : Nat → Int32} {L : Nat} {f k k' dr bs be tk nb r bs' be' tk' nb' : Int32} {xw xd xp xw' xd' : Nat → Int32} (h : rdI T L f k dr bs be tk nb xw xd xp) (hf : f.toInt = 0) (h8 : ¬ tk.toInt = 8) (d0 : 0 ≤ dr.toInt) (b0 : 0 ≤ be.toInt) (ra : raQ T L dr bs be tk xw xd r bs' be' tk' nb' xw' xd') (hr : ¬ r.toInt = 0) : rdI T L r k' dr bs' be' tk' nb' xw' xd' xp := by
  obtain ⟨i1, i2, i3⟩ := h
  obtain ⟨ra0, ra⟩ := ra
  have cd := i_cl d0
  have cb := i_cl b0
  rcases i3 with ⟨-, i4, q1, q2, q3, q4⟩ | ⟨i4, -⟩
  · have eb : be.toNatClampNeg = tE T L (poL T L dr.toNatClampNeg) := by omega
    refine ⟨i1, duLn_same i2 ra0 (fun _ _ => rfl), Or.inr ⟨hr, ?_⟩⟩
    rcases ra with ⟨a1, a2, a3⟩ | ⟨a1, a2, a3, a4⟩ | ⟨a1, a2, a3, a4, -⟩
    · obtain ⟨c1, c2⟩ := du_a1 (T := T) (L := L) (n := dr.toNatClampNeg) (by omega)
      rw [a3]
      exact ⟨by omega, by omega, by omega⟩
    · obtain ⟨c1, c2⟩ := du_a2 (T := T) (L := L) (n := dr.toNatClampNeg) (by omega) (by omega)
      rw [a4]
      exact ⟨by omega, by omega, by omega⟩
    · rw [eb] at a3 a4
      have e1 := acR_01 T L (tE T L (poL T L dr.toNatClampNeg))
      obtain ⟨c1, c2⟩ := du_a3 (T := T) (L := L) (n := dr.toNatClampNeg) (by omega) (by omega) (by omega)
      have a5 := a4.1
      exact ⟨by omega, by omega, by omega⟩
  · exact absurd hf i4
theorem rd_B {T : Nat → Int32} {L : Nat} {f k k' dr dr' bs be tk nb r r2 bs' be' tk' nb' bs2 be2 tk2 nb2 : Int32} {xw xd xp xw' xd' xp' : Nat → Int32} (h : rdI T L f k dr bs be tk nb xw xd xp) (hf : f.toInt = 0) (h8 : ¬ tk.toInt = 8) (d0 : 0 ≤ dr.toInt) (b0 : 0 ≤ be.toInt) (b1 : 0 ≤ be'.toInt) (hk : k'.toInt = k.toInt + 1) (ra : raQ T L dr bs be tk xw xd r bs' be' tk' nb' xw' xd') (hr : r.toInt = 0) (rp : rpQ T L dr bs' be' tk' xp r2 bs2 be2 tk2 nb2 dr' xp') : rdI T L r2 k' dr' bs2 be2 tk2 nb2 xw' xd' xp' := by
  obtain ⟨i1, i2, i3⟩ := h
  obtain ⟨ra0, ra⟩ := ra
  obtain ⟨rp0, rp⟩ := rp
  have cd := i_cl d0
  have cb := i_cl b0
  have cb' := i_cl b1
  rcases i3 with ⟨-, i4, q1, q2, q3, q4⟩ | ⟨i4, -⟩
  · have eb : be.toNatClampNeg = tE T L (poL T L dr.toNatClampNeg) := by omega
    rcases ra with ⟨a1, a2, a3⟩ | ⟨a1, a2, a3, a4⟩ | ⟨a1, a2, a3, a4, a5, a6⟩
    · omega
    · omega
    · rw [eb] at a3 a4 a6
      have a7 := a6 hr
      obtain ⟨t1, t2, t3, t4⟩ := a4
      have eb' : be'.toNatClampNeg = tE T L (acP T L (tE T L (poL T L dr.toNatClampNeg))) := by omega
      rcases rp with ⟨p1, p2, p3, p4⟩ | ⟨p1, p2, p3, p4, p5⟩
      · obtain ⟨c1, c2⟩ := du_b1 (T := T) (L := L) (n := dr.toNatClampNeg) (by omega) (by omega) (by omega) (by omega)
        rw [p4, p3]
        exact ⟨i1, duLn_same i2 ra0 rp0, Or.inr ⟨by omega, by omega, by omega, by omega⟩⟩
      · rw [eb'] at p2 p3 p4
        obtain ⟨c1, c2, c3⟩ := du_b2 (T := T) (L := L) (n := dr.toNatClampNeg) (by omega) (by omega) (by omega) (by omega)
        by_cases z : r2.toInt = 0
        · obtain ⟨p6, p7⟩ := p4 z
          have cd' := i_cl (x := dr') (by omega)
          have ed : dr'.toNatClampNeg = dr.toNatClampNeg + 1 := by omega
          rw [show rdI T L r2 k' dr' bs2 be2 tk2 nb2 xw' xd' xp' = (duOk T L dr'.toNatClampNeg ∧ duLn T L dr'.toNatClampNeg xw' xd' xp' ∧ ((r2.toInt = 0 ∧ k'.toInt = dr'.toInt ∧ tokQ T L (poL T L dr'.toNatClampNeg) bs2 be2 tk2 nb2) ∨ (¬ r2.toInt = 0 ∧ r2.toInt = dcF T L dr'.toNatClampNeg ∧ bs2.toInt = (dpF T L dr'.toNatClampNeg : Int) ∧ ¬ tK T L (poL T L dr'.toNatClampNeg) = 8))) from rfl, ed]
          refine ⟨duOk_s i1 (by omega) (by omega), fun j hj => ?_, Or.inl ⟨z, by omega, ?_⟩⟩
          · by_cases e : j = dr.toNatClampNeg
            · rw [e, a5]
              exact ⟨q3, a7, p7⟩
            · have s := duLn_same i2 ra0 rp0 j (by omega)
              exact s
          · rw [poL_s]
            exact p3
        · rw [p5 z]
          have p8 := p3.1
          have e9 : paP T L (tE T L (acP T L (tE T L (poL T L dr.toNatClampNeg)))) = lnN T L (poL T L dr.toNatClampNeg) := rfl
          rw [e9] at p8
          exact ⟨i1, duLn_same i2 ra0 rp0, Or.inr ⟨z, by omega, by omega, by omega⟩⟩
  · exact absurd hf i4
theorem rd_0 {T : Nat → Int32} {L : Nat} {bs be tk nb : Int32} {xw xd xp : Nat → Int32} (h : tokQ T L ((0 : Int32).toNatClampNeg) bs be tk nb) : rdI T L 0 0 0 bs be tk nb xw xd xp := by
  have z0 : (0 : Int32).toNatClampNeg = 0 := rfl
  rw [z0] at h
  unfold rdI
  rw [z0]
  exact ⟨fun j hj => absurd hj (by omega), fun j hj => absurd hj (by omega), Or.inl ⟨rfl, rfl, h⟩⟩


theorem l_bmod {z : Int} (h1 : -9223372036854775808 ≤ z) (h2 : z < 9223372036854775808) : z.bmod (2 ^ 64) = z := by
  rw [Int.bmod_def]; omega
theorem l_add {x y : Int64} (h1 : -9223372036854775808 ≤ x.toInt + y.toInt) (h2 : x.toInt + y.toInt < 9223372036854775808) : (x + y).toInt = x.toInt + y.toInt := by
  rw [Int64.toInt_add]; exact l_bmod h1 h2
theorem l_sub {x y : Int64} (h1 : -9223372036854775808 ≤ x.toInt - y.toInt) (h2 : x.toInt - y.toInt < 9223372036854775808) : (x - y).toInt = x.toInt - y.toInt := by
  rw [Int64.toInt_sub]; exact l_bmod h1 h2

set_option maxHeartbeats 4000000 in
set_option maxRecDepth 100000 in
theorem ct_X10_isBelow (l : Launch) (D : va_G) (cI cY cJ cQ : ClassId) (sz : Nat) (a : Int32) (b : Int32)   : Met l yX10_isBelow wsX10_isBelow ({ frames := 0, cells := 0, slots := 0, locals := 0 }) (cPre D (ty4 cI cY cJ cQ) [] sz [.int a, .int b]) (va_Qi (fun (r : Int32) (u : Unit) => r = if 0 ≤ a.toInt ∧ a.toInt < b.toInt then 1 else 0) (cB D (ty4 cI cY cJ cQ) (fun (u : Unit) => []) (va_A [] sz)) (va_A [] sz)) 0 0 (va_A [] sz) := by
  refine Met.ofW (cc := cX10_isBelow) (maxL := 2) (ret := (some .boolean)) (by decide) rfl ?_
  intro p e s m args below meth c s₁ B hml hv
  obtain ⟨rfl, hsz, hP, hK, hD0, hN⟩ := hv
  have hx := B.exec
  have hb := B.bytes
  have hr := B.returns
  have hts := atoms_spec (ws := wsX10_isBelow) B.pre
  have hown : s.vm.findClass RX10 = some m.cls := findClass_of_methodNamed B.named
  have hlocks := B.notSynchronized
  subst hsz
  have hD := hD0.self (sz := s.heap.size)
  generalize hAe : va_A [] s.heap.size = A at hD ⊢
  have hA : ∀ q : Nat, s.heap.size ≤ q → A q := fun q h => by rw [← hAe]; exact Or.inr h
  have hS : va_S A s.heap s.heap [] := va_S.rf
  have hP : va_P D vwCl [] s.heap := hP
  have hl := lv_entry ([.int a, .int b]) (n := 2) (Nat.le_of_ble_eq_true rfl)
  rw [lg_entry_eq]
  generalize (lg_sl ([.int a, .int b]) ++ List.replicate (2 - (lg_sl ([.int a, .int b])).length) Slot.unset).toArray = ls at hl ⊢
  have hl : lv_has ls 2 [(0, .int a), (1, .int b)] := hl
  have k0 : (0 : Int32).toInt = 0 := by decide
  refine lv_iload_n hx hb dX10_isBelow_0 rfl (lv_at hl 0 rfl) ?_
  refine lv_if_lt (tgt := 13) hx hb dX10_isBelow_1 (by decide) (fun c1 => ?_) (fun c1 => ?_)
  · skip
    have f2 := i_lt c1
    refine lv_iconst (v := 0) hx hb dX10_isBelow_13 (by decide) ?_
    have hP9 := hP
    have hD9 := hD
    exact W.zret (v := 0) hx hb hr rfl (fun t ht hW => ⟨⟨0, (), rfl, bo_no (by omega), by rw [ht]; exact hP9, va_K.moved hW.alike hK, hD9⟩, hS.F ht⟩) hS.2.2 dX10_isBelow_14
  · skip
    have f3 := i_nlt c1
    refine lv_iload_n hx hb dX10_isBelow_4 rfl (lv_at hl 0 rfl) ?_
    refine lv_iload_n hx hb dX10_isBelow_5 rfl (lv_at hl 1 rfl) ?_
    refine lv_icmp_ge (tgt := 13) hx hb dX10_isBelow_6 (by decide) (fun c4 => ?_) (fun c4 => ?_)
    · skip
      have f5 := i_le c4
      refine lv_iconst (v := 0) hx hb dX10_isBelow_13 (by decide) ?_
      have hP9 := hP
      have hD9 := hD
      exact W.zret (v := 0) hx hb hr rfl (fun t ht hW => ⟨⟨0, (), rfl, bo_no (by omega), by rw [ht]; exact hP9, va_K.moved hW.alike hK, hD9⟩, hS.F ht⟩) hS.2.2 dX10_isBelow_14
    · skip
      have f6 := i_nle c4
      refine lv_iconst (v := 1) hx hb dX10_isBelow_9 (by decide) ?_
      refine lv_goto (tgt := 14) hx hb dX10_isBelow_10 (by decide) ?_
      have hP9 := hP
      have hD9 := hD
      exact W.zret (v := 1) hx hb hr rfl (fun t ht hW => ⟨⟨1, (), rfl, bo_yes (by omega), by rw [ht]; exact hP9, va_K.moved hW.alike hK, hD9⟩, hS.F ht⟩) hS.2.2 dX10_isBelow_14

set_option maxHeartbeats 4000000 in
set_option maxRecDepth 100000 in
theorem ct_X10_isFrom (l : Launch) (D : va_G) (cI cY cJ cQ : ClassId) (sz : Nat) (a : Int32) (b : Int32) (d : Int32)   : Met l yX10_isFrom wsX10_isFrom ({ frames := 0, cells := 0, slots := 0, locals := 0 }) (cPre D (ty4 cI cY cJ cQ) [] sz [.int a, .int b, .int d]) (va_Qi (fun (r : Int32) (u : Unit) => r = if b.toInt ≤ a.toInt ∧ a.toInt ≤ d.toInt then 1 else 0) (cB D (ty4 cI cY cJ cQ) (fun (u : Unit) => []) (va_A [] sz)) (va_A [] sz)) 0 0 (va_A [] sz) := by
  refine Met.ofW (cc := cX10_isFrom) (maxL := 3) (ret := (some .boolean)) (by decide) rfl ?_
  intro p e s m args below meth c s₁ B hml hv
  obtain ⟨rfl, hsz, hP, hK, hD0, hN⟩ := hv
  have hx := B.exec
  have hb := B.bytes
  have hr := B.returns
  have hts := atoms_spec (ws := wsX10_isFrom) B.pre
  have hown : s.vm.findClass RX10 = some m.cls := findClass_of_methodNamed B.named
  have hlocks := B.notSynchronized
  subst hsz
  have hD := hD0.self (sz := s.heap.size)
  generalize hAe : va_A [] s.heap.size = A at hD ⊢
  have hA : ∀ q : Nat, s.heap.size ≤ q → A q := fun q h => by rw [← hAe]; exact Or.inr h
  have hS : va_S A s.heap s.heap [] := va_S.rf
  have hP : va_P D vwCl [] s.heap := hP
  have hl := lv_entry ([.int a, .int b, .int d]) (n := 3) (Nat.le_of_ble_eq_true rfl)
  rw [lg_entry_eq]
  generalize (lg_sl ([.int a, .int b, .int d]) ++ List.replicate (3 - (lg_sl ([.int a, .int b, .int d])).length) Slot.unset).toArray = ls at hl ⊢
  have hl : lv_has ls 3 [(0, .int a), (1, .int b), (2, .int d)] := hl
  refine lv_iload_n hx hb dX10_isFrom_0 rfl (lv_at hl 0 rfl) ?_
  refine lv_iload_n hx hb dX10_isFrom_1 rfl (lv_at hl 1 rfl) ?_
  refine lv_icmp_lt (tgt := 14) hx hb dX10_isFrom_2 (by decide) (fun c1 => ?_) (fun c1 => ?_)
  · skip
    have f2 := i_lt c1
    refine lv_iconst (v := 0) hx hb dX10_isFrom_14 (by decide) ?_
    have hP9 := hP
    have hD9 := hD
    exact W.zret (v := 0) hx hb hr rfl (fun t ht hW => ⟨⟨0, (), rfl, bo_no (by omega), by rw [ht]; exact hP9, va_K.moved hW.alike hK, hD9⟩, hS.F ht⟩) hS.2.2 dX10_isFrom_15
  · skip
    have f3 := i_nlt c1
    refine lv_iload_n hx hb dX10_isFrom_5 rfl (lv_at hl 0 rfl) ?_
    refine lv_iload_n hx hb dX10_isFrom_6 rfl (lv_at hl 2 rfl) ?_
    refine lv_icmp_gt (tgt := 14) hx hb dX10_isFrom_7 (by decide) (fun c4 => ?_) (fun c4 => ?_)
    · skip
      have f5 := i_lt c4
      refine lv_iconst (v := 0) hx hb dX10_isFrom_14 (by decide) ?_
      have hP9 := hP
      have hD9 := hD
      exact W.zret (v := 0) hx hb hr rfl (fun t ht hW => ⟨⟨0, (), rfl, bo_no (by omega), by rw [ht]; exact hP9, va_K.moved hW.alike hK, hD9⟩, hS.F ht⟩) hS.2.2 dX10_isFrom_15
    · skip
      have f6 := i_nlt c4
      refine lv_iconst (v := 1) hx hb dX10_isFrom_10 (by decide) ?_
      refine lv_goto (tgt := 15) hx hb dX10_isFrom_11 (by decide) ?_
      have hP9 := hP
      have hD9 := hD
      exact W.zret (v := 1) hx hb hr rfl (fun t ht hW => ⟨⟨1, (), rfl, bo_yes (by omega), by rw [ht]; exact hP9, va_K.moved hW.alike hK, hD9⟩, hS.F ht⟩) hS.2.2 dX10_isFrom_15

set_option maxHeartbeats 4000000 in
set_option maxRecDepth 100000 in
theorem ct_X10_isDay (l : Launch) (D : va_G) (cI cY cJ cQ : ClassId) (sz : Nat) (a : Int32)   : Met l yX10_isDay wsX10_isDay ({ frames := 1, cells := 0, slots := 0, locals := 21 }) (cPre D (ty4 cI cY cJ cQ) [] sz [.int a]) (va_Qi (fun (r : Int32) (u : Unit) => r = if 0 ≤ a.toInt ∧ a.toInt < 10000 then 1 else 0) (cB D (ty4 cI cY cJ cQ) (fun (u : Unit) => []) (va_A [] sz)) (va_A [] sz)) 0 0 (va_A [] sz) := by
  refine Met.ofW (cc := cX10_isDay) (maxL := 1) (ret := (some .boolean)) (by decide) rfl ?_
  intro p e s m args below meth c s₁ B hml hv
  obtain ⟨rfl, hsz, hP, hK, hD0, hN⟩ := hv
  have hx := B.exec
  have hb := B.bytes
  have hr := B.returns
  have hts := atoms_spec (ws := wsX10_isDay) B.pre
  have hown : s.vm.findClass RX10 = some m.cls := findClass_of_methodNamed B.named
  have hlocks := B.notSynchronized
  subst hsz
  have hD := hD0.self (sz := s.heap.size)
  generalize hAe : va_A [] s.heap.size = A at hD ⊢
  have hA : ∀ q : Nat, s.heap.size ≤ q → A q := fun q h => by rw [← hAe]; exact Or.inr h
  have hS : va_S A s.heap s.heap [] := va_S.rf
  have hP : va_P D vwCl [] s.heap := hP
  have hl := lv_entry ([.int a]) (n := 1) (Nat.le_of_ble_eq_true rfl)
  rw [lg_entry_eq]
  generalize (lg_sl ([.int a]) ++ List.replicate (1 - (lg_sl ([.int a])).length) Slot.unset).toArray = ls at hl ⊢
  have hl : lv_has ls 1 [(0, .int a)] := hl
  have k10000 : (10000 : Int32).toInt = 10000 := by decide
  refine lv_iload_n hx hb dX10_isDay_0 rfl (lv_at hl 0 rfl) ?_
  refine lv_sipush (v := 10000) hx hb dX10_isDay_1 (by decide) ?_
  refine st_i1 (va_runS (As := [.int a, .int 10000]) (rest := []) ⟨hx, hb, hml, hown, hts⟩ (ct_X10_isBelow l D cI cY cJ cQ _ a (10000 : Int32)) (va_cwS 2 hts gX10_isDay_X10_isBelow rfl rfl rfl cdX10_isBelow ⟨Nat.le_of_ble_eq_true rfl, Nat.le_of_ble_eq_true rfl⟩) (cPreS (hP.sub [] rfl) hK (hD.sub [] (by decide +kernel) rfl) hN) rfl rfl hl.1 rfl (lv_room (Nat.le_of_ble_eq_true rfl)) dX10_isDay_4 ⟨Nat.le_of_ble_eq_true rfl, Nat.le_of_ble_eq_true rfl⟩) hP hD hS hA [] rfl (fun _ => rfl) (fun r3 u1 H locs hw2 => ?_)
  clear hP hS
  intro hP hS
  replace hw2 : r3 = if 0 ≤ a.toInt ∧ a.toInt < (10000 : Int32).toInt then 1 else 0 := hw2
  have hP9 := hP
  have hD9 := hD
  exact W.zret (v := r3) hx hb hr (zn_b hw2) (fun t ht hW => ⟨⟨r3, (), rfl, bo_iff hw2 ⟨fun h => by omega, fun h => by omega⟩, by rw [ht]; exact hP9, va_K.moved hW.alike hK, hD9⟩, hS.F ht⟩) hS.2.2 dX10_isDay_7

set_option maxHeartbeats 4000000 in
set_option maxRecDepth 100000 in
theorem ct_X10_areDays (l : Launch) (D : va_G) (cI cY cJ cQ : ClassId) (sz : Nat) (a : Int32) (b : Int32)   : Met l yX10_areDays wsX10_areDays ({ frames := 2, cells := 0, slots := 0, locals := 41 }) (cPre D (ty4 cI cY cJ cQ) [] sz [.int a, .int b]) (va_Qi (fun (r : Int32) (u : Unit) => r = if 0 ≤ a.toInt ∧ b.toInt < 10000 ∧ a.toInt ≤ b.toInt then 1 else 0) (cB D (ty4 cI cY cJ cQ) (fun (u : Unit) => []) (va_A [] sz)) (va_A [] sz)) 0 0 (va_A [] sz) := by
  refine Met.ofW (cc := cX10_areDays) (maxL := 2) (ret := (some .boolean)) (by decide) rfl ?_
  intro p e s m args below meth c s₁ B hml hv
  obtain ⟨rfl, hsz, hP, hK, hD0, hN⟩ := hv
  have hx := B.exec
  have hb := B.bytes
  have hr := B.returns
  have hts := atoms_spec (ws := wsX10_areDays) B.pre
  have hown : s.vm.findClass RX10 = some m.cls := findClass_of_methodNamed B.named
  have hlocks := B.notSynchronized
  subst hsz
  have hD := hD0.self (sz := s.heap.size)
  generalize hAe : va_A [] s.heap.size = A at hD ⊢
  have hA : ∀ q : Nat, s.heap.size ≤ q → A q := fun q h => by rw [← hAe]; exact Or.inr h
  have hS : va_S A s.heap s.heap [] := va_S.rf
  have hP : va_P D vwCl [] s.heap := hP
  have hl := lv_entry ([.int a, .int b]) (n := 2) (Nat.le_of_ble_eq_true rfl)
  rw [lg_entry_eq]
  generalize (lg_sl ([.int a, .int b]) ++ List.replicate (2 - (lg_sl ([.int a, .int b])).length) Slot.unset).toArray = ls at hl ⊢
  have hl : lv_has ls 2 [(0, .int a), (1, .int b)] := hl
  have k0 : (0 : Int32).toInt = 0 := by decide
  refine lv_iload_n hx hb dX10_areDays_0 rfl (lv_at hl 0 rfl) ?_
  refine st_i1 (va_runS (As := [.int a]) (rest := []) ⟨hx, hb, hml, hown, hts⟩ (ct_X10_isDay l D cI cY cJ cQ _ a) (va_cwS 1 hts gX10_areDays_X10_isDay rfl rfl rfl cdX10_isDay ⟨Nat.le_of_ble_eq_true rfl, Nat.le_of_ble_eq_true rfl⟩) (cPreS (hP.sub [] rfl) hK (hD.sub [] (by decide +kernel) rfl) hN) rfl rfl hl.1 rfl (lv_room (Nat.le_of_ble_eq_true rfl)) dX10_areDays_1 ⟨Nat.le_of_ble_eq_true rfl, Nat.le_of_ble_eq_true rfl⟩) hP hD hS hA [] rfl (fun _ => rfl) (fun r3 u1 H locs hw2 => ?_)
  clear hP hS
  intro hP hS
  replace hw2 : r3 = if 0 ≤ a.toInt ∧ a.toInt < 10000 then 1 else 0 := hw2
  refine lv_if_eq (tgt := 23) hx hb dX10_areDays_4 (by decide) (fun c4 => ?_) (fun c4 => ?_)
  · skip
    have f5 := bo_f hw2 c4
    refine lv_iconst (v := 0) hx hb dX10_areDays_23 (by decide) ?_
    have hP9 := hP
    have hD9 := hD
    exact W.zret (v := 0) hx hb hr rfl (fun t ht hW => ⟨⟨0, (), rfl, bo_no (by omega), by rw [ht]; exact hP9, va_K.moved hW.alike hK, hD9⟩, hS.F ht⟩) hS.2.2 dX10_areDays_24
  · skip
    have f6 := bo_t hw2 c4
    refine lv_iload_n hx hb dX10_areDays_7 rfl (lv_at hl 1 rfl) ?_
    refine st_i1 (va_runS (As := [.int b]) (rest := []) ⟨hx, hb, hml, hown, hts⟩ (ct_X10_isDay l D cI cY cJ cQ _ b) (va_cwS 1 hts gX10_areDays_X10_isDay rfl rfl rfl cdX10_isDay ⟨Nat.le_of_ble_eq_true rfl, Nat.le_of_ble_eq_true rfl⟩) (cPreS (hP.sub [] rfl) hK (hD.sub [] (by decide +kernel) rfl) hN) rfl rfl hl.1 rfl (lv_room (Nat.le_of_ble_eq_true rfl)) dX10_areDays_8 ⟨Nat.le_of_ble_eq_true rfl, Nat.le_of_ble_eq_true rfl⟩) hP hD hS hA [] rfl (fun _ => rfl) (fun r9 u7 H locs hw8 => ?_)
    clear hP hS
    intro hP hS
    replace hw8 : r9 = if 0 ≤ b.toInt ∧ b.toInt < 10000 then 1 else 0 := hw8
    refine lv_if_eq (tgt := 23) hx hb dX10_areDays_11 (by decide) (fun c10 => ?_) (fun c10 => ?_)
    · skip
      have f11 := bo_f hw8 c10
      refine lv_iconst (v := 0) hx hb dX10_areDays_23 (by decide) ?_
      have hP9 := hP
      have hD9 := hD
      exact W.zret (v := 0) hx hb hr rfl (fun t ht hW => ⟨⟨0, (), rfl, bo_no (by omega), by rw [ht]; exact hP9, va_K.moved hW.alike hK, hD9⟩, hS.F ht⟩) hS.2.2 dX10_areDays_24
    · skip
      have f12 := bo_t hw8 c10
      refine lv_iload_n hx hb dX10_areDays_14 rfl (lv_at hl 0 rfl) ?_
      refine lv_iload_n hx hb dX10_areDays_15 rfl (lv_at hl 1 rfl) ?_
      refine lv_icmp_gt (tgt := 23) hx hb dX10_areDays_16 (by decide) (fun c13 => ?_) (fun c13 => ?_)
      · skip
        have f14 := i_lt c13
        refine lv_iconst (v := 0) hx hb dX10_areDays_23 (by decide) ?_
        have hP9 := hP
        have hD9 := hD
        exact W.zret (v := 0) hx hb hr rfl (fun t ht hW => ⟨⟨0, (), rfl, bo_no (by omega), by rw [ht]; exact hP9, va_K.moved hW.alike hK, hD9⟩, hS.F ht⟩) hS.2.2 dX10_areDays_24
      · skip
        have f15 := i_nlt c13
        refine lv_iconst (v := 1) hx hb dX10_areDays_19 (by decide) ?_
        refine lv_goto (tgt := 24) hx hb dX10_areDays_20 (by decide) ?_
        have hP9 := hP
        have hD9 := hD
        exact W.zret (v := 1) hx hb hr rfl (fun t ht hW => ⟨⟨1, (), rfl, bo_yes (by omega), by rw [ht]; exact hP9, va_K.moved hW.alike hK, hD9⟩, hS.F ht⟩) hS.2.2 dX10_areDays_24

set_option maxHeartbeats 4000000 in
set_option maxRecDepth 100000 in
theorem ct_X10_isPerson (l : Launch) (D : va_G) (cI cY cJ cQ : ClassId) (sz : Nat) (a : Int32)   : Met l yX10_isPerson wsX10_isPerson ({ frames := 1, cells := 0, slots := 0, locals := 21 }) (cPre D (ty4 cI cY cJ cQ) [] sz [.int a]) (va_Qi (fun (r : Int32) (u : Unit) => r = if 0 ≤ a.toInt ∧ a.toInt < 10 then 1 else 0) (cB D (ty4 cI cY cJ cQ) (fun (u : Unit) => []) (va_A [] sz)) (va_A [] sz)) 0 0 (va_A [] sz) := by
  refine Met.ofW (cc := cX10_isPerson) (maxL := 1) (ret := (some .boolean)) (by decide) rfl ?_
  intro p e s m args below meth c s₁ B hml hv
  obtain ⟨rfl, hsz, hP, hK, hD0, hN⟩ := hv
  have hx := B.exec
  have hb := B.bytes
  have hr := B.returns
  have hts := atoms_spec (ws := wsX10_isPerson) B.pre
  have hown : s.vm.findClass RX10 = some m.cls := findClass_of_methodNamed B.named
  have hlocks := B.notSynchronized
  subst hsz
  have hD := hD0.self (sz := s.heap.size)
  generalize hAe : va_A [] s.heap.size = A at hD ⊢
  have hA : ∀ q : Nat, s.heap.size ≤ q → A q := fun q h => by rw [← hAe]; exact Or.inr h
  have hS : va_S A s.heap s.heap [] := va_S.rf
  have hP : va_P D vwCl [] s.heap := hP
  have hl := lv_entry ([.int a]) (n := 1) (Nat.le_of_ble_eq_true rfl)
  rw [lg_entry_eq]
  generalize (lg_sl ([.int a]) ++ List.replicate (1 - (lg_sl ([.int a])).length) Slot.unset).toArray = ls at hl ⊢
  have hl : lv_has ls 1 [(0, .int a)] := hl
  have k10 : (10 : Int32).toInt = 10 := by decide
  refine lv_iload_n hx hb dX10_isPerson_0 rfl (lv_at hl 0 rfl) ?_
  refine lv_bipush (v := 10) hx hb dX10_isPerson_1 (by decide) ?_
  refine st_i1 (va_runS (As := [.int a, .int 10]) (rest := []) ⟨hx, hb, hml, hown, hts⟩ (ct_X10_isBelow l D cI cY cJ cQ _ a (10 : Int32)) (va_cwS 2 hts gX10_isPerson_X10_isBelow rfl rfl rfl cdX10_isBelow ⟨Nat.le_of_ble_eq_true rfl, Nat.le_of_ble_eq_true rfl⟩) (cPreS (hP.sub [] rfl) hK (hD.sub [] (by decide +kernel) rfl) hN) rfl rfl hl.1 rfl (lv_room (Nat.le_of_ble_eq_true rfl)) dX10_isPerson_3 ⟨Nat.le_of_ble_eq_true rfl, Nat.le_of_ble_eq_true rfl⟩) hP hD hS hA [] rfl (fun _ => rfl) (fun r3 u1 H locs hw2 => ?_)
  clear hP hS
  intro hP hS
  replace hw2 : r3 = if 0 ≤ a.toInt ∧ a.toInt < (10 : Int32).toInt then 1 else 0 := hw2
  have hP9 := hP
  have hD9 := hD
  exact W.zret (v := r3) hx hb hr (zn_b hw2) (fun t ht hW => ⟨⟨r3, (), rfl, bo_iff hw2 ⟨fun h => by omega, fun h => by omega⟩, by rw [ht]; exact hP9, va_K.moved hW.alike hK, hD9⟩, hS.F ht⟩) hS.2.2 dX10_isPerson_6

set_option maxHeartbeats 4000000 in
set_option maxRecDepth 100000 in
theorem ct_X10_isOwner (l : Launch) (D : va_G) (cI cY cJ cQ : ClassId) (sz : Nat) (a : Int32)   : Met l yX10_isOwner wsX10_isOwner ({ frames := 1, cells := 0, slots := 0, locals := 21 }) (cPre D (ty4 cI cY cJ cQ) [] sz [.int a]) (va_Qi (fun (r : Int32) (u : Unit) => r = if 0 ≤ a.toInt ∧ a.toInt < 20 then 1 else 0) (cB D (ty4 cI cY cJ cQ) (fun (u : Unit) => []) (va_A [] sz)) (va_A [] sz)) 0 0 (va_A [] sz) := by
  refine Met.ofW (cc := cX10_isOwner) (maxL := 1) (ret := (some .boolean)) (by decide) rfl ?_
  intro p e s m args below meth c s₁ B hml hv
  obtain ⟨rfl, hsz, hP, hK, hD0, hN⟩ := hv
  have hx := B.exec
  have hb := B.bytes
  have hr := B.returns
  have hts := atoms_spec (ws := wsX10_isOwner) B.pre
  have hown : s.vm.findClass RX10 = some m.cls := findClass_of_methodNamed B.named
  have hlocks := B.notSynchronized
  subst hsz
  have hD := hD0.self (sz := s.heap.size)
  generalize hAe : va_A [] s.heap.size = A at hD ⊢
  have hA : ∀ q : Nat, s.heap.size ≤ q → A q := fun q h => by rw [← hAe]; exact Or.inr h
  have hS : va_S A s.heap s.heap [] := va_S.rf
  have hP : va_P D vwCl [] s.heap := hP
  have hl := lv_entry ([.int a]) (n := 1) (Nat.le_of_ble_eq_true rfl)
  rw [lg_entry_eq]
  generalize (lg_sl ([.int a]) ++ List.replicate (1 - (lg_sl ([.int a])).length) Slot.unset).toArray = ls at hl ⊢
  have hl : lv_has ls 1 [(0, .int a)] := hl
  have k20 : (20 : Int32).toInt = 20 := by decide
  refine lv_iload_n hx hb dX10_isOwner_0 rfl (lv_at hl 0 rfl) ?_
  refine lv_bipush (v := 20) hx hb dX10_isOwner_1 (by decide) ?_
  refine st_i1 (va_runS (As := [.int a, .int 20]) (rest := []) ⟨hx, hb, hml, hown, hts⟩ (ct_X10_isBelow l D cI cY cJ cQ _ a (20 : Int32)) (va_cwS 2 hts gX10_isOwner_X10_isBelow rfl rfl rfl cdX10_isBelow ⟨Nat.le_of_ble_eq_true rfl, Nat.le_of_ble_eq_true rfl⟩) (cPreS (hP.sub [] rfl) hK (hD.sub [] (by decide +kernel) rfl) hN) rfl rfl hl.1 rfl (lv_room (Nat.le_of_ble_eq_true rfl)) dX10_isOwner_3 ⟨Nat.le_of_ble_eq_true rfl, Nat.le_of_ble_eq_true rfl⟩) hP hD hS hA [] rfl (fun _ => rfl) (fun r3 u1 H locs hw2 => ?_)
  clear hP hS
  intro hP hS
  replace hw2 : r3 = if 0 ≤ a.toInt ∧ a.toInt < (20 : Int32).toInt then 1 else 0 := hw2
  have hP9 := hP
  have hD9 := hD
  exact W.zret (v := r3) hx hb hr (zn_b hw2) (fun t ht hW => ⟨⟨r3, (), rfl, bo_iff hw2 ⟨fun h => by omega, fun h => by omega⟩, by rw [ht]; exact hP9, va_K.moved hW.alike hK, hD9⟩, hS.F ht⟩) hS.2.2 dX10_isOwner_6

set_option maxHeartbeats 4000000 in
set_option maxRecDepth 100000 in
theorem ct_X10_isPair (l : Launch) (D : va_G) (cI cY cJ cQ : ClassId) (sz : Nat) (a : Int32) (b : Int32)   : Met l yX10_isPair wsX10_isPair ({ frames := 2, cells := 0, slots := 0, locals := 41 }) (cPre D (ty4 cI cY cJ cQ) [] sz [.int a, .int b]) (va_Qi (fun (r : Int32) (u : Unit) => r = if 0 ≤ a.toInt ∧ a.toInt < 20 ∧ 10 ≤ b.toInt ∧ b.toInt < 20 ∧ ¬ a.toInt = b.toInt then 1 else 0) (cB D (ty4 cI cY cJ cQ) (fun (u : Unit) => []) (va_A [] sz)) (va_A [] sz)) 0 0 (va_A [] sz) := by
  refine Met.ofW (cc := cX10_isPair) (maxL := 2) (ret := (some .boolean)) (by decide) rfl ?_
  intro p e s m args below meth c s₁ B hml hv
  obtain ⟨rfl, hsz, hP, hK, hD0, hN⟩ := hv
  have hx := B.exec
  have hb := B.bytes
  have hr := B.returns
  have hts := atoms_spec (ws := wsX10_isPair) B.pre
  have hown : s.vm.findClass RX10 = some m.cls := findClass_of_methodNamed B.named
  have hlocks := B.notSynchronized
  subst hsz
  have hD := hD0.self (sz := s.heap.size)
  generalize hAe : va_A [] s.heap.size = A at hD ⊢
  have hA : ∀ q : Nat, s.heap.size ≤ q → A q := fun q h => by rw [← hAe]; exact Or.inr h
  have hS : va_S A s.heap s.heap [] := va_S.rf
  have hP : va_P D vwCl [] s.heap := hP
  have hl := lv_entry ([.int a, .int b]) (n := 2) (Nat.le_of_ble_eq_true rfl)
  rw [lg_entry_eq]
  generalize (lg_sl ([.int a, .int b]) ++ List.replicate (2 - (lg_sl ([.int a, .int b])).length) Slot.unset).toArray = ls at hl ⊢
  have hl : lv_has ls 2 [(0, .int a), (1, .int b)] := hl
  have k0 : (0 : Int32).toInt = 0 := by decide
  refine lv_iload_n hx hb dX10_isPair_0 rfl (lv_at hl 0 rfl) ?_
  refine st_i1 (va_runS (As := [.int a]) (rest := []) ⟨hx, hb, hml, hown, hts⟩ (ct_X10_isOwner l D cI cY cJ cQ _ a) (va_cwS 1 hts gX10_isPair_X10_isOwner rfl rfl rfl cdX10_isOwner ⟨Nat.le_of_ble_eq_true rfl, Nat.le_of_ble_eq_true rfl⟩) (cPreS (hP.sub [] rfl) hK (hD.sub [] (by decide +kernel) rfl) hN) rfl rfl hl.1 rfl (lv_room (Nat.le_of_ble_eq_true rfl)) dX10_isPair_1 ⟨Nat.le_of_ble_eq_true rfl, Nat.le_of_ble_eq_true rfl⟩) hP hD hS hA [] rfl (fun _ => rfl) (fun r3 u1 H locs hw2 => ?_)
  clear hP hS
  intro hP hS
  replace hw2 : r3 = if 0 ≤ a.toInt ∧ a.toInt < 20 then 1 else 0 := hw2
  refine lv_if_eq (tgt := 30) hx hb dX10_isPair_4 (by decide) (fun c4 => ?_) (fun c4 => ?_)
  · skip
    have f5 := bo_f hw2 c4
    refine lv_iconst (v := 0) hx hb dX10_isPair_30 (by decide) ?_
    have hP9 := hP
    have hD9 := hD
    exact W.zret (v := 0) hx hb hr rfl (fun t ht hW => ⟨⟨0, (), rfl, bo_no (by omega), by rw [ht]; exact hP9, va_K.moved hW.alike hK, hD9⟩, hS.F ht⟩) hS.2.2 dX10_isPair_31
  · skip
    have f6 := bo_t hw2 c4
    refine lv_iload_n hx hb dX10_isPair_7 rfl (lv_at hl 1 rfl) ?_
    refine st_i1 (va_runS (As := [.int b]) (rest := []) ⟨hx, hb, hml, hown, hts⟩ (ct_X10_isOwner l D cI cY cJ cQ _ b) (va_cwS 1 hts gX10_isPair_X10_isOwner rfl rfl rfl cdX10_isOwner ⟨Nat.le_of_ble_eq_true rfl, Nat.le_of_ble_eq_true rfl⟩) (cPreS (hP.sub [] rfl) hK (hD.sub [] (by decide +kernel) rfl) hN) rfl rfl hl.1 rfl (lv_room (Nat.le_of_ble_eq_true rfl)) dX10_isPair_8 ⟨Nat.le_of_ble_eq_true rfl, Nat.le_of_ble_eq_true rfl⟩) hP hD hS hA [] rfl (fun _ => rfl) (fun r9 u7 H locs hw8 => ?_)
    clear hP hS
    intro hP hS
    replace hw8 : r9 = if 0 ≤ b.toInt ∧ b.toInt < 20 then 1 else 0 := hw8
    refine lv_if_eq (tgt := 30) hx hb dX10_isPair_11 (by decide) (fun c10 => ?_) (fun c10 => ?_)
    · skip
      have f11 := bo_f hw8 c10
      refine lv_iconst (v := 0) hx hb dX10_isPair_30 (by decide) ?_
      have hP9 := hP
      have hD9 := hD
      exact W.zret (v := 0) hx hb hr rfl (fun t ht hW => ⟨⟨0, (), rfl, bo_no (by omega), by rw [ht]; exact hP9, va_K.moved hW.alike hK, hD9⟩, hS.F ht⟩) hS.2.2 dX10_isPair_31
    · skip
      have f12 := bo_t hw8 c10
      refine lv_iload_n hx hb dX10_isPair_14 rfl (lv_at hl 1 rfl) ?_
      refine st_i1 (va_runS (As := [.int b]) (rest := []) ⟨hx, hb, hml, hown, hts⟩ (ct_X10_isPerson l D cI cY cJ cQ _ b) (va_cwS 1 hts gX10_isPair_X10_isPerson rfl rfl rfl cdX10_isPerson ⟨Nat.le_of_ble_eq_true rfl, Nat.le_of_ble_eq_true rfl⟩) (cPreS (hP.sub [] rfl) hK (hD.sub [] (by decide +kernel) rfl) hN) rfl rfl hl.1 rfl (lv_room (Nat.le_of_ble_eq_true rfl)) dX10_isPair_15 ⟨Nat.le_of_ble_eq_true rfl, Nat.le_of_ble_eq_true rfl⟩) hP hD hS hA [] rfl (fun _ => rfl) (fun r15 u13 H locs hw14 => ?_)
      clear hP hS
      intro hP hS
      replace hw14 : r15 = if 0 ≤ b.toInt ∧ b.toInt < 10 then 1 else 0 := hw14
      refine lv_if_ne (tgt := 30) hx hb dX10_isPair_18 (by decide) (fun c16 => ?_) (fun c16 => ?_)
      · skip
        have f17 := bo_t hw14 c16
        refine lv_iconst (v := 0) hx hb dX10_isPair_30 (by decide) ?_
        have hP9 := hP
        have hD9 := hD
        exact W.zret (v := 0) hx hb hr rfl (fun t ht hW => ⟨⟨0, (), rfl, bo_no (by omega), by rw [ht]; exact hP9, va_K.moved hW.alike hK, hD9⟩, hS.F ht⟩) hS.2.2 dX10_isPair_31
      · skip
        have f18 := bo_f hw14 c16
        refine lv_iload_n hx hb dX10_isPair_21 rfl (lv_at hl 0 rfl) ?_
        refine lv_iload_n hx hb dX10_isPair_22 rfl (lv_at hl 1 rfl) ?_
        refine lv_icmp_eq (tgt := 30) hx hb dX10_isPair_23 (by decide) (fun c19 => ?_) (fun c19 => ?_)
        · skip
          have f20 := i_eq c19
          refine lv_iconst (v := 0) hx hb dX10_isPair_30 (by decide) ?_
          have hP9 := hP
          have hD9 := hD
          exact W.zret (v := 0) hx hb hr rfl (fun t ht hW => ⟨⟨0, (), rfl, bo_no (by omega), by rw [ht]; exact hP9, va_K.moved hW.alike hK, hD9⟩, hS.F ht⟩) hS.2.2 dX10_isPair_31
        · skip
          have f21 := i_ne c19
          refine lv_iconst (v := 1) hx hb dX10_isPair_26 (by decide) ?_
          refine lv_goto (tgt := 31) hx hb dX10_isPair_27 (by decide) ?_
          have hP9 := hP
          have hD9 := hD
          exact W.zret (v := 1) hx hb hr rfl (fun t ht hW => ⟨⟨1, (), rfl, bo_yes (by omega), by rw [ht]; exact hP9, va_K.moved hW.alike hK, hD9⟩, hS.F ht⟩) hS.2.2 dX10_isPair_31

set_option maxHeartbeats 4000000 in
set_option maxRecDepth 100000 in
theorem ct_X2_isLetter (l : Launch) (D : va_G) (cI cY cJ cQ : ClassId) (sz : Nat) (a : Int32)   : Met l yX2_isLetter wsX2_isLetter ({ frames := 0, cells := 0, slots := 0, locals := 0 }) (cPre D (ty4 cI cY cJ cQ) [] sz [.int a]) (va_Qi (fun (r : Int32) (u : Unit) => r = if 97 ≤ a.toInt ∧ a.toInt ≤ 122 then 1 else 0) (cB D (ty4 cI cY cJ cQ) (fun (u : Unit) => []) (va_A [] sz)) (va_A [] sz)) 0 0 (va_A [] sz) := by
  refine Met.ofW (cc := cX2_isLetter) (maxL := 1) (ret := (some .boolean)) (by decide) rfl ?_
  intro p e s m args below meth c s₁ B hml hv
  obtain ⟨rfl, hsz, hP, hK, hD0, hN⟩ := hv
  have hx := B.exec
  have hb := B.bytes
  have hr := B.returns
  have hts := atoms_spec (ws := wsX2_isLetter) B.pre
  have hown : s.vm.findClass RX2 = some m.cls := findClass_of_methodNamed B.named
  have hlocks := B.notSynchronized
  subst hsz
  have hD := hD0.self (sz := s.heap.size)
  generalize hAe : va_A [] s.heap.size = A at hD ⊢
  have hA : ∀ q : Nat, s.heap.size ≤ q → A q := fun q h => by rw [← hAe]; exact Or.inr h
  have hS : va_S A s.heap s.heap [] := va_S.rf
  have hP : va_P D vwCl [] s.heap := hP
  have hl := lv_entry ([.int a]) (n := 1) (Nat.le_of_ble_eq_true rfl)
  rw [lg_entry_eq]
  generalize (lg_sl ([.int a]) ++ List.replicate (1 - (lg_sl ([.int a])).length) Slot.unset).toArray = ls at hl ⊢
  have hl : lv_has ls 1 [(0, .int a)] := hl
  have k97 : (97 : Int32).toInt = 97 := by decide
  have k122 : (122 : Int32).toInt = 122 := by decide
  refine lv_iload_n hx hb dX2_isLetter_0 rfl (lv_at hl 0 rfl) ?_
  refine lv_bipush (v := 97) hx hb dX2_isLetter_1 (by decide) ?_
  refine lv_icmp_lt (tgt := 16) hx hb dX2_isLetter_3 (by decide) (fun c1 => ?_) (fun c1 => ?_)
  · skip
    have f2 := i_lt c1
    refine lv_iconst (v := 0) hx hb dX2_isLetter_16 (by decide) ?_
    have hP9 := hP
    have hD9 := hD
    exact W.zret (v := 0) hx hb hr rfl (fun t ht hW => ⟨⟨0, (), rfl, bo_no (by omega), by rw [ht]; exact hP9, va_K.moved hW.alike hK, hD9⟩, hS.F ht⟩) hS.2.2 dX2_isLetter_17
  · skip
    have f3 := i_nlt c1
    refine lv_iload_n hx hb dX2_isLetter_6 rfl (lv_at hl 0 rfl) ?_
    refine lv_bipush (v := 122) hx hb dX2_isLetter_7 (by decide) ?_
    refine lv_icmp_gt (tgt := 16) hx hb dX2_isLetter_9 (by decide) (fun c4 => ?_) (fun c4 => ?_)
    · skip
      have f5 := i_lt c4
      refine lv_iconst (v := 0) hx hb dX2_isLetter_16 (by decide) ?_
      have hP9 := hP
      have hD9 := hD
      exact W.zret (v := 0) hx hb hr rfl (fun t ht hW => ⟨⟨0, (), rfl, bo_no (by omega), by rw [ht]; exact hP9, va_K.moved hW.alike hK, hD9⟩, hS.F ht⟩) hS.2.2 dX2_isLetter_17
    · skip
      have f6 := i_nlt c4
      refine lv_iconst (v := 1) hx hb dX2_isLetter_12 (by decide) ?_
      refine lv_goto (tgt := 17) hx hb dX2_isLetter_13 (by decide) ?_
      have hP9 := hP
      have hD9 := hD
      exact W.zret (v := 1) hx hb hr rfl (fun t ht hW => ⟨⟨1, (), rfl, bo_yes (by omega), by rw [ht]; exact hP9, va_K.moved hW.alike hK, hD9⟩, hS.F ht⟩) hS.2.2 dX2_isLetter_17

set_option maxHeartbeats 4000000 in
set_option maxRecDepth 100000 in
theorem ct_X2_isFigure (l : Launch) (D : va_G) (cI cY cJ cQ : ClassId) (sz : Nat) (a : Int32)   : Met l yX2_isFigure wsX2_isFigure ({ frames := 0, cells := 0, slots := 0, locals := 0 }) (cPre D (ty4 cI cY cJ cQ) [] sz [.int a]) (va_Qi (fun (r : Int32) (u : Unit) => r = if 48 ≤ a.toInt ∧ a.toInt ≤ 57 then 1 else 0) (cB D (ty4 cI cY cJ cQ) (fun (u : Unit) => []) (va_A [] sz)) (va_A [] sz)) 0 0 (va_A [] sz) := by
  refine Met.ofW (cc := cX2_isFigure) (maxL := 1) (ret := (some .boolean)) (by decide) rfl ?_
  intro p e s m args below meth c s₁ B hml hv
  obtain ⟨rfl, hsz, hP, hK, hD0, hN⟩ := hv
  have hx := B.exec
  have hb := B.bytes
  have hr := B.returns
  have hts := atoms_spec (ws := wsX2_isFigure) B.pre
  have hown : s.vm.findClass RX2 = some m.cls := findClass_of_methodNamed B.named
  have hlocks := B.notSynchronized
  subst hsz
  have hD := hD0.self (sz := s.heap.size)
  generalize hAe : va_A [] s.heap.size = A at hD ⊢
  have hA : ∀ q : Nat, s.heap.size ≤ q → A q := fun q h => by rw [← hAe]; exact Or.inr h
  have hS : va_S A s.heap s.heap [] := va_S.rf
  have hP : va_P D vwCl [] s.heap := hP
  have hl := lv_entry ([.int a]) (n := 1) (Nat.le_of_ble_eq_true rfl)
  rw [lg_entry_eq]
  generalize (lg_sl ([.int a]) ++ List.replicate (1 - (lg_sl ([.int a])).length) Slot.unset).toArray = ls at hl ⊢
  have hl : lv_has ls 1 [(0, .int a)] := hl
  have k48 : (48 : Int32).toInt = 48 := by decide
  have k57 : (57 : Int32).toInt = 57 := by decide
  refine lv_iload_n hx hb dX2_isFigure_0 rfl (lv_at hl 0 rfl) ?_
  refine lv_bipush (v := 48) hx hb dX2_isFigure_1 (by decide) ?_
  refine lv_icmp_lt (tgt := 16) hx hb dX2_isFigure_3 (by decide) (fun c1 => ?_) (fun c1 => ?_)
  · skip
    have f2 := i_lt c1
    refine lv_iconst (v := 0) hx hb dX2_isFigure_16 (by decide) ?_
    have hP9 := hP
    have hD9 := hD
    exact W.zret (v := 0) hx hb hr rfl (fun t ht hW => ⟨⟨0, (), rfl, bo_no (by omega), by rw [ht]; exact hP9, va_K.moved hW.alike hK, hD9⟩, hS.F ht⟩) hS.2.2 dX2_isFigure_17
  · skip
    have f3 := i_nlt c1
    refine lv_iload_n hx hb dX2_isFigure_6 rfl (lv_at hl 0 rfl) ?_
    refine lv_bipush (v := 57) hx hb dX2_isFigure_7 (by decide) ?_
    refine lv_icmp_gt (tgt := 16) hx hb dX2_isFigure_9 (by decide) (fun c4 => ?_) (fun c4 => ?_)
    · skip
      have f5 := i_lt c4
      refine lv_iconst (v := 0) hx hb dX2_isFigure_16 (by decide) ?_
      have hP9 := hP
      have hD9 := hD
      exact W.zret (v := 0) hx hb hr rfl (fun t ht hW => ⟨⟨0, (), rfl, bo_no (by omega), by rw [ht]; exact hP9, va_K.moved hW.alike hK, hD9⟩, hS.F ht⟩) hS.2.2 dX2_isFigure_17
    · skip
      have f6 := i_nlt c4
      refine lv_iconst (v := 1) hx hb dX2_isFigure_12 (by decide) ?_
      refine lv_goto (tgt := 17) hx hb dX2_isFigure_13 (by decide) ?_
      have hP9 := hP
      have hD9 := hD
      exact W.zret (v := 1) hx hb hr rfl (fun t ht hW => ⟨⟨1, (), rfl, bo_yes (by omega), by rw [ht]; exact hP9, va_K.moved hW.alike hK, hD9⟩, hS.F ht⟩) hS.2.2 dX2_isFigure_17

/-- bit b of a is set -/
abbrev hbP (a b : Int32) : Prop := ¬ (((a.toUInt32 >>> (b.toUInt32 &&& Int32.toUInt32 31)).toInt32 &&& 1) = 0)

set_option maxHeartbeats 4000000 in
set_option maxRecDepth 100000 in
theorem ct_X10_hasBit (l : Launch) (D : va_G) (cI cY cJ cQ : ClassId) (sz : Nat) (a : Int32) (b : Int32)   : Met l yX10_hasBit wsX10_hasBit ({ frames := 0, cells := 0, slots := 0, locals := 0 }) (cPre D (ty4 cI cY cJ cQ) [] sz [.int a, .int b]) (va_Qi (fun (r : Int32) (u : Unit) => r = if hbP a b then 1 else 0) (cB D (ty4 cI cY cJ cQ) (fun (u : Unit) => []) (va_A [] sz)) (va_A [] sz)) 0 0 (va_A [] sz) := by
  refine Met.ofW (cc := cX10_hasBit) (maxL := 2) (ret := (some .boolean)) (by decide) rfl ?_
  intro p e s m args below meth c s₁ B hml hv
  obtain ⟨rfl, hsz, hP, hK, hD0, hN⟩ := hv
  have hx := B.exec
  have hb := B.bytes
  have hr := B.returns
  have hts := atoms_spec (ws := wsX10_hasBit) B.pre
  have hown : s.vm.findClass RX10 = some m.cls := findClass_of_methodNamed B.named
  have hlocks := B.notSynchronized
  subst hsz
  have hD := hD0.self (sz := s.heap.size)
  generalize hAe : va_A [] s.heap.size = A at hD ⊢
  have hA : ∀ q : Nat, s.heap.size ≤ q → A q := fun q h => by rw [← hAe]; exact Or.inr h
  have hS : va_S A s.heap s.heap [] := va_S.rf
  have hP : va_P D vwCl [] s.heap := hP
  have hl := lv_entry ([.int a, .int b]) (n := 2) (Nat.le_of_ble_eq_true rfl)
  rw [lg_entry_eq]
  generalize (lg_sl ([.int a, .int b]) ++ List.replicate (2 - (lg_sl ([.int a, .int b])).length) Slot.unset).toArray = ls at hl ⊢
  have hl : lv_has ls 2 [(0, .int a), (1, .int b)] := hl
  have k0 : (0 : Int32).toInt = 0 := by decide
  have k1 : (1 : Int32).toInt = 1 := by decide
  refine lv_iload_n hx hb dX10_hasBit_0 rfl (lv_at hl 0 rfl) ?_
  refine lv_iload_n hx hb dX10_hasBit_1 rfl (lv_at hl 1 rfl) ?_
  obtain ⟨v1, ev1⟩ : ∃ q : Int32, q = (a.toUInt32 >>> (b.toUInt32 &&& Int32.toUInt32 31)).toInt32 := ⟨_, rfl⟩
  refine lv_iushr (v := v1) hx hb dX10_hasBit_2 ev1.symm ?_
  refine lv_iconst (v := 1) hx hb dX10_hasBit_3 (by decide) ?_
  refine lv_iand hx hb dX10_hasBit_4 ?_
  refine lv_topi (fun v2 ev2 => ?_)
  refine lv_if_eq (tgt := 12) hx hb dX10_hasBit_5 (by decide) (fun c3 => ?_) (fun c3 => ?_)
  · skip
    have f4 := i_eq c3
    refine lv_iconst (v := 0) hx hb dX10_hasBit_12 (by decide) ?_
    have hP9 := hP
    have hD9 := hD
    exact W.zret (v := 0) hx hb hr rfl (fun t ht hW => ⟨⟨0, (), rfl, bo_no (by subst_vars; exact fun h9 => h9 (by first | assumption | (symm; assumption))), by rw [ht]; exact hP9, va_K.moved hW.alike hK, hD9⟩, hS.F ht⟩) hS.2.2 dX10_hasBit_13
  · skip
    have f5 := i_ne c3
    refine lv_iconst (v := 1) hx hb dX10_hasBit_8 (by decide) ?_
    refine lv_goto (tgt := 13) hx hb dX10_hasBit_9 (by decide) ?_
    have hP9 := hP
    have hD9 := hD
    exact W.zret (v := 1) hx hb hr rfl (fun t ht hW => ⟨⟨1, (), rfl, bo_yes (by subst_vars; assumption), by rw [ht]; exact hP9, va_K.moved hW.alike hK, hD9⟩, hS.F ht⟩) hS.2.2 dX10_hasBit_13

set_option maxHeartbeats 4000000 in
set_option maxRecDepth 100000 in
theorem ct_X10_isCrate (l : Launch) (D : va_G) (cI cY cJ cQ : ClassId) (sz : Nat) (ad : Nat → Nat) (tn td lf cn : Int32) (a : Int32)   : Met l yX10_isCrate wsX10_isCrate ({ frames := 1, cells := 0, slots := 0, locals := 21 }) (cPre D (ty4 cI cY cJ cQ) [(oC10 ad tn td lf), (oC1 ad cn)] sz [.ref (ad 0), .int a]) (va_Qi (fun (r : Int32) (u : Unit) => r = if 0 ≤ a.toInt ∧ a.toInt < cn.toInt then 1 else 0) (cB D (ty4 cI cY cJ cQ) (fun (u : Unit) => [(oC10 ad tn td lf), (oC1 ad cn)]) (va_A [(oC10 ad tn td lf), (oC1 ad cn)] sz)) (va_A [(oC10 ad tn td lf), (oC1 ad cn)] sz)) 0 0 (va_A [(oC10 ad tn td lf), (oC1 ad cn)] sz) := by
  refine Met.ofW (cc := cX10_isCrate) (maxL := 2) (ret := (some .boolean)) (by decide) rfl ?_
  intro p e s m args below meth c s₁ B hml hv
  obtain ⟨rfl, hsz, hP, hK, hD0, hN⟩ := hv
  have hx := B.exec
  have hb := B.bytes
  have hr := B.returns
  have hts := atoms_spec (ws := wsX10_isCrate) B.pre
  have hown : s.vm.findClass RX10 = some m.cls := findClass_of_methodNamed B.named
  have hlocks := B.notSynchronized
  subst hsz
  have hD := hD0.self (sz := s.heap.size)
  generalize hAe : va_A [(oC10 ad tn td lf), (oC1 ad cn)] s.heap.size = A at hD ⊢
  have hA : ∀ q : Nat, s.heap.size ≤ q → A q := fun q h => by rw [← hAe]; exact Or.inr h
  have hS : va_S A s.heap s.heap [] := va_S.rf
  have hP : va_P D vwCl [(oC10 ad tn td lf), (oC1 ad cn)] s.heap := hP
  have hl := lv_entry ([.ref (ad 0), .int a]) (n := 2) (Nat.le_of_ble_eq_true rfl)
  rw [lg_entry_eq]
  generalize (lg_sl ([.ref (ad 0), .int a]) ++ List.replicate (2 - (lg_sl ([.ref (ad 0), .int a])).length) Slot.unset).toArray = ls at hl ⊢
  have hl : lv_has ls 2 [(0, .ref (ad 0)), (1, .int a)] := hl
  refine lv_iload_n hx hb dX10_isCrate_0 rfl (lv_at hl 1 rfl) ?_
  refine lv_aload_n hx hb dX10_isCrate_1 rfl (lv_at hl 0 rfl) ?_
  refine va_get (D := D) (ci := 10) (v := .ref (ad 3)) (C := RX10) (T := TX10) (N := 14) hx hb hts inX10_isCrate_X10 hown hK hP 0 rfl rfl 2 (by decide) (hts (Cond.fieldLink RX10 26 "PortRooms" "crates" "LPortRooms$Crates;") (wm_t (wm_l (wm_i 0 rfl)))) (fun _ h9 => h9) rfl dX10_isCrate_2 ?_
  refine va_get (D := D) (ci := 1) (v := .int cn) (C := RX1) (T := TX1) (N := 6) hx hb hts inX10_isCrate_X1 hown hK hP 1 rfl rfl 3 (by decide) (hts (Cond.fieldLink RX10 177 "PortRooms$Crates" "count" "I") (wm_t (wm_l (wm_i 1 rfl)))) (fun _ h9 => h9) rfl dX10_isCrate_5 ?_
  refine st_i1 (va_runS (As := [.int a, .int cn]) (rest := []) ⟨hx, hb, hml, hown, hts⟩ (ct_X10_isBelow l D cI cY cJ cQ _ a cn) (va_cwS 2 hts gX10_isCrate_X10_isBelow rfl rfl rfl cdX10_isBelow ⟨Nat.le_of_ble_eq_true rfl, Nat.le_of_ble_eq_true rfl⟩) (cPreS (hP.sub [] rfl) hK (hD.sub [] (by decide +kernel) rfl) hN) rfl rfl hl.1 rfl (lv_room (Nat.le_of_ble_eq_true rfl)) dX10_isCrate_8 ⟨Nat.le_of_ble_eq_true rfl, Nat.le_of_ble_eq_true rfl⟩) hP hD hS hA [] rfl (fun _ => rfl) (fun r3 u1 H locs hw2 => ?_)
  clear hP hS
  intro hP hS
  replace hw2 : r3 = if 0 ≤ a.toInt ∧ a.toInt < cn.toInt then 1 else 0 := hw2
  have hP9 := hP
  have hD9 := hD
  exact W.zret (v := r3) hx hb hr (zn_b hw2) (fun t ht hW => ⟨⟨r3, (), rfl, bo_iff hw2 ⟨fun h => by omega, fun h => by omega⟩, by rw [ht]; exact hP9, va_K.moved hW.alike hK, hD9⟩, hS.F ht⟩) hS.2.2 dX10_isCrate_11

set_option maxHeartbeats 4000000 in
set_option maxRecDepth 100000 in
theorem ct_X10_finding (l : Launch) (D : va_G) (cI cY cJ cQ : ClassId) (sz : Nat) (ad : Nat → Nat) (tn td lf : Int32) (a : Int32)   : Met l yX10_finding wsX10_finding ({ frames := 0, cells := 0, slots := 0, locals := 0 }) (cPre D (ty4 cI cY cJ cQ) [(oC10 ad tn td lf)] sz [.ref (ad 0), .int a]) (va_Qi (fun (r : Int32) (u : Unit) => r = (-1000010) - a) (cB D (ty4 cI cY cJ cQ) (fun (u : Unit) => [(oC10 ad tn td a)]) (va_A [(oC10 ad tn td lf)] sz)) (va_A [(oC10 ad tn td lf)] sz)) 0 0 (va_A [(oC10 ad tn td lf)] sz) := by
  refine Met.ofW (cc := cX10_finding) (maxL := 2) (ret := (some .int)) (by decide) rfl ?_
  intro p e s m args below meth c s₁ B hml hv
  obtain ⟨rfl, hsz, hP, hK, hD0, hN⟩ := hv
  have hx := B.exec
  have hb := B.bytes
  have hr := B.returns
  have hts := atoms_spec (ws := wsX10_finding) B.pre
  have hown : s.vm.findClass RX10 = some m.cls := findClass_of_methodNamed B.named
  have hlocks := B.notSynchronized
  subst hsz
  have hD := hD0.self (sz := s.heap.size)
  generalize hAe : va_A [(oC10 ad tn td lf)] s.heap.size = A at hD ⊢
  have hA : ∀ q : Nat, s.heap.size ≤ q → A q := fun q h => by rw [← hAe]; exact Or.inr h
  have hS : va_S A s.heap s.heap [] := va_S.rf
  have hP : va_P D vwCl [(oC10 ad tn td lf)] s.heap := hP
  have hl := lv_entry ([.ref (ad 0), .int a]) (n := 2) (Nat.le_of_ble_eq_true rfl)
  rw [lg_entry_eq]
  generalize (lg_sl ([.ref (ad 0), .int a]) ++ List.replicate (2 - (lg_sl ([.ref (ad 0), .int a])).length) Slot.unset).toArray = ls at hl ⊢
  have hl : lv_has ls 2 [(0, .ref (ad 0)), (1, .int a)] := hl
  have km1000010 : (-1000010 : Int32).toInt = -1000010 := by decide
  refine lv_aload_n hx hb dX10_finding_0 rfl (lv_at hl 0 rfl) ?_
  refine lv_iload_n hx hb dX10_finding_1 rfl (lv_at hl 1 rfl) ?_
  refine va_put (D := D) (ci := 10) (v := .int a) (ty := .int) (C := RX10) (T := TX10) (N := 14) hx hb hts inX10_finding_X10 tyX10 tyX10_ok nmX10 hown hK hP hD hS 0 rfl rfl 13 (by decide) (hts (Cond.fieldLink RX10 322 "PortRooms" "latestFinding" "I") (wm_t (wm_l (wm_i 0 rfl)))) (fun _ h9 => h9) rfl (tyX10_ok 13 (by decide)) rfl rfl (Nat.le_of_ble_eq_true rfl) dX10_finding_2 (fun H locs => ?_)
  clear hP hD hS
  intro hP hD hS
  replace hP : va_P D vwCl [(oC10 ad tn td a)] H := hP
  replace hD : va_D A [(oC10 ad tn td a)] := hD
  refine lv_ldcw hx hb hown (hts (Cond.constant RX10 325 (-1000010)) (wm_t (wm_l (wm_i 1 rfl)))) dX10_finding_5 ?_
  refine lv_iload_n hx hb dX10_finding_8 rfl (lv_at hl 1 rfl) ?_
  refine lv_isub hx hb dX10_finding_9 ?_
  refine lv_topi (fun v1 ev1 => ?_)
  try have tv1 : v1.toInt = (-1000010) - a.toInt := by rw [ev1]; exact (i_sub (x := ((-1000010) : Int32)) (y := a) (by rw [km1000010]; omega) (by rw [km1000010]; omega)).trans (by rw [km1000010])
  have hP9 := hP
  have hD9 := hD
  exact W.iret (v := v1) hx hb hr (fun t ht hW => ⟨⟨v1, (), rfl, ev1, by rw [ht]; exact hP9, va_K.moved hW.alike hK, hD9⟩, hS.F ht⟩) hS.2.2 dX10_finding_10

set_option maxHeartbeats 4000000 in
set_option maxRecDepth 100000 in
theorem ct_X10_passed (l : Launch) (D : va_G) (cI cY cJ cQ : ClassId) (sz : Nat) (ad : Nat → Nat) (tn td lf : Int32) (a : Int32)   : Met l yX10_passed wsX10_passed ({ frames := 0, cells := 0, slots := 0, locals := 0 }) (cPre D (ty4 cI cY cJ cQ) [(oC10 ad tn td lf)] sz [.ref (ad 0), .int a]) (va_Qi (fun (r : Int32) (u : Unit) => r = a) (cB D (ty4 cI cY cJ cQ) (fun (u : Unit) => [(oC10 ad tn td 0)]) (va_A [(oC10 ad tn td lf)] sz)) (va_A [(oC10 ad tn td lf)] sz)) 0 0 (va_A [(oC10 ad tn td lf)] sz) := by
  refine Met.ofW (cc := cX10_passed) (maxL := 2) (ret := (some .int)) (by decide) rfl ?_
  intro p e s m args below meth c s₁ B hml hv
  obtain ⟨rfl, hsz, hP, hK, hD0, hN⟩ := hv
  have hx := B.exec
  have hb := B.bytes
  have hr := B.returns
  have hts := atoms_spec (ws := wsX10_passed) B.pre
  have hown : s.vm.findClass RX10 = some m.cls := findClass_of_methodNamed B.named
  have hlocks := B.notSynchronized
  subst hsz
  have hD := hD0.self (sz := s.heap.size)
  generalize hAe : va_A [(oC10 ad tn td lf)] s.heap.size = A at hD ⊢
  have hA : ∀ q : Nat, s.heap.size ≤ q → A q := fun q h => by rw [← hAe]; exact Or.inr h
  have hS : va_S A s.heap s.heap [] := va_S.rf
  have hP : va_P D vwCl [(oC10 ad tn td lf)] s.heap := hP
  have hl := lv_entry ([.ref (ad 0), .int a]) (n := 2) (Nat.le_of_ble_eq_true rfl)
  rw [lg_entry_eq]
  generalize (lg_sl ([.ref (ad 0), .int a]) ++ List.replicate (2 - (lg_sl ([.ref (ad 0), .int a])).length) Slot.unset).toArray = ls at hl ⊢
  have hl : lv_has ls 2 [(0, .ref (ad 0)), (1, .int a)] := hl
  refine lv_aload_n hx hb dX10_passed_0 rfl (lv_at hl 0 rfl) ?_
  refine lv_iconst (v := 0) hx hb dX10_passed_1 (by decide) ?_
  refine va_put (D := D) (ci := 10) (v := .int 0) (ty := .int) (C := RX10) (T := TX10) (N := 14) hx hb hts inX10_passed_X10 tyX10 tyX10_ok nmX10 hown hK hP hD hS 0 rfl rfl 13 (by decide) (hts (Cond.fieldLink RX10 322 "PortRooms" "latestFinding" "I") (wm_t (wm_l (wm_i 0 rfl)))) (fun _ h9 => h9) rfl (tyX10_ok 13 (by decide)) rfl rfl (Nat.le_of_ble_eq_true rfl) dX10_passed_2 (fun H locs => ?_)
  clear hP hD hS
  intro hP hD hS
  replace hP : va_P D vwCl [(oC10 ad tn td (0))] H := hP
  replace hD : va_D A [(oC10 ad tn td (0))] := hD
  refine lv_iload_n hx hb dX10_passed_5 rfl (lv_at hl 1 rfl) ?_
  have hP9 := hP
  have hD9 := hD
  exact W.iret (v := a) hx hb hr (fun t ht hW => ⟨⟨a, (), rfl, rfl, by rw [ht]; exact hP9, va_K.moved hW.alike hK, hD9⟩, hS.F ht⟩) hS.2.2 dX10_passed_6

set_option maxHeartbeats 4000000 in
set_option maxRecDepth 100000 in
theorem ct_X10_status (l : Launch) (D : va_G) (cI cY cJ cQ : ClassId) (sz : Nat) (ad : Nat → Nat) (tn td lf : Int32)   : Met l yX10_status wsX10_status ({ frames := 0, cells := 0, slots := 0, locals := 0 }) (cPre D (ty4 cI cY cJ cQ) [(oC10 ad tn td lf)] sz [.ref (ad 0)]) (va_Qi (fun (r : Int32) (u : Unit) => r = lf) (cB D (ty4 cI cY cJ cQ) (fun (u : Unit) => [(oC10 ad tn td lf)]) (va_A [(oC10 ad tn td lf)] sz)) (va_A [(oC10 ad tn td lf)] sz)) 0 0 (va_A [(oC10 ad tn td lf)] sz) := by
  refine Met.ofW (cc := cX10_status) (maxL := 1) (ret := (some .int)) (by decide) rfl ?_
  intro p e s m args below meth c s₁ B hml hv
  obtain ⟨rfl, hsz, hP, hK, hD0, hN⟩ := hv
  have hx := B.exec
  have hb := B.bytes
  have hr := B.returns
  have hts := atoms_spec (ws := wsX10_status) B.pre
  have hown : s.vm.findClass RX10 = some m.cls := findClass_of_methodNamed B.named
  have hlocks := B.notSynchronized
  subst hsz
  have hD := hD0.self (sz := s.heap.size)
  generalize hAe : va_A [(oC10 ad tn td lf)] s.heap.size = A at hD ⊢
  have hA : ∀ q : Nat, s.heap.size ≤ q → A q := fun q h => by rw [← hAe]; exact Or.inr h
  have hS : va_S A s.heap s.heap [] := va_S.rf
  have hP : va_P D vwCl [(oC10 ad tn td lf)] s.heap := hP
  have hl := lv_entry ([.ref (ad 0)]) (n := 1) (Nat.le_of_ble_eq_true rfl)
  rw [lg_entry_eq]
  generalize (lg_sl ([.ref (ad 0)]) ++ List.replicate (1 - (lg_sl ([.ref (ad 0)])).length) Slot.unset).toArray = ls at hl ⊢
  have hl : lv_has ls 1 [(0, .ref (ad 0))] := hl
  refine lv_aload_n hx hb dX10_status_0 rfl (lv_at hl 0 rfl) ?_
  refine va_get (D := D) (ci := 10) (v := .int lf) (C := RX10) (T := TX10) (N := 14) hx hb hts inX10_status_X10 hown hK hP 0 rfl rfl 13 (by decide) (hts (Cond.fieldLink RX10 322 "PortRooms" "latestFinding" "I") (wm_t (wm_l (wm_i 0 rfl)))) (fun _ h9 => h9) rfl dX10_status_1 ?_
  have hP9 := hP
  have hD9 := hD
  exact W.iret (v := lf) hx hb hr (fun t ht hW => ⟨⟨lf, (), rfl, rfl, by rw [ht]; exact hP9, va_K.moved hW.alike hK, hD9⟩, hS.F ht⟩) hS.2.2 dX10_status_4

def sp_day (td d : Int32) : Int32 × Int32 := if 0 ≤ d.toInt ∧ d.toInt < 10000 then (td, d) else (-1000001, td)

set_option maxHeartbeats 4000000 in
set_option maxRecDepth 100000 in
theorem ct_X10_day (l : Launch) (D : va_G) (cI cY cJ cQ : ClassId) (sz : Nat) (ad : Nat → Nat) (tn td lf : Int32) (d : Int32)   : Met l yX10_day wsX10_day ({ frames := 2, cells := 0, slots := 0, locals := 41 }) (cPre D (ty4 cI cY cJ cQ) [(oC10 ad tn td lf)] sz [.ref (ad 0), .int d]) (va_Qi (fun (r : Int32) (u : Int32) => (r, u) = sp_day td d) (cB D (ty4 cI cY cJ cQ) (fun (u : Int32) => [(oC10 ad tn u lf)]) (va_A [(oC10 ad tn td lf)] sz)) (va_A [(oC10 ad tn td lf)] sz)) 0 0 (va_A [(oC10 ad tn td lf)] sz) := by
  refine Met.ofW (cc := cX10_day) (maxL := 3) (ret := (some .int)) (by decide) rfl ?_
  intro p e s m args below meth c s₁ B hml hv
  obtain ⟨rfl, hsz, hP, hK, hD0, hN⟩ := hv
  have hx := B.exec
  have hb := B.bytes
  have hr := B.returns
  have hts := atoms_spec (ws := wsX10_day) B.pre
  have hown : s.vm.findClass RX10 = some m.cls := findClass_of_methodNamed B.named
  have hlocks := B.notSynchronized
  subst hsz
  have hD := hD0.self (sz := s.heap.size)
  generalize hAe : va_A [(oC10 ad tn td lf)] s.heap.size = A at hD ⊢
  have hA : ∀ q : Nat, s.heap.size ≤ q → A q := fun q h => by rw [← hAe]; exact Or.inr h
  have hS : va_S A s.heap s.heap [] := va_S.rf
  have hP : va_P D vwCl [(oC10 ad tn td lf)] s.heap := hP
  have hl := lv_entry ([.ref (ad 0), .int d]) (n := 3) (Nat.le_of_ble_eq_true rfl)
  rw [lg_entry_eq]
  generalize (lg_sl ([.ref (ad 0), .int d]) ++ List.replicate (3 - (lg_sl ([.ref (ad 0), .int d])).length) Slot.unset).toArray = ls at hl ⊢
  have hl : lv_has ls 3 [(0, .ref (ad 0)), (1, .int d)] := hl
  have km1000001 : (-1000001 : Int32).toInt = -1000001 := by decide
  have k0 : (0 : Int32).toInt = 0 := by decide
  refine lv_iload_n hx hb dX10_day_0 rfl (lv_at hl 1 rfl) ?_
  refine st_i1 (va_runS (As := [.int d]) (rest := []) ⟨hx, hb, hml, hown, hts⟩ (ct_X10_isDay l D cI cY cJ cQ _ d) (va_cwS 1 hts gX10_day_X10_isDay rfl rfl rfl cdX10_isDay ⟨Nat.le_of_ble_eq_true rfl, Nat.le_of_ble_eq_true rfl⟩) (cPreS (hP.sub [] rfl) hK (hD.sub [] (by decide +kernel) rfl) hN) rfl rfl hl.1 rfl (lv_room (Nat.le_of_ble_eq_true rfl)) dX10_day_1 ⟨Nat.le_of_ble_eq_true rfl, Nat.le_of_ble_eq_true rfl⟩) hP hD hS hA [] rfl (fun _ => rfl) (fun r3 u1 H locs hw2 => ?_)
  clear hP hS
  intro hP hS
  replace hw2 : r3 = if 0 ≤ d.toInt ∧ d.toInt < 10000 then 1 else 0 := hw2
  refine lv_if_ne (tgt := 10) hx hb dX10_day_4 (by decide) (fun c4 => ?_) (fun c4 => ?_)
  · skip
    have f5 := bo_t hw2 c4
    refine lv_aload_n hx hb dX10_day_10 rfl (lv_at hl 0 rfl) ?_
    refine va_get (D := D) (ci := 10) (v := .int td) (C := RX10) (T := TX10) (N := 14) hx hb hts inX10_day_X10 hown hK hP 0 rfl rfl 12 (by decide) (hts (Cond.fieldLink RX10 298 "PortRooms" "today" "I") (wm_t (wm_l (wm_i 1 rfl)))) (fun _ h9 => h9) rfl dX10_day_11 ?_
    refine lv_istore_n (lv' := [(2, .int td), (0, .ref (ad 0)), (1, .int d)]) hx hb dX10_day_14 rfl hl (by decide) rfl (fun ls hl => ?_)
    refine lv_aload_n hx hb dX10_day_15 rfl (lv_at hl 1 rfl) ?_
    refine lv_iload_n hx hb dX10_day_16 rfl (lv_at hl 2 rfl) ?_
    refine va_put (D := D) (ci := 10) (v := .int d) (ty := .int) (C := RX10) (T := TX10) (N := 14) hx hb hts inX10_day_X10 tyX10 tyX10_ok nmX10 hown hK hP hD hS 0 rfl rfl 12 (by decide) (hts (Cond.fieldLink RX10 298 "PortRooms" "today" "I") (wm_t (wm_l (wm_i 1 rfl)))) (fun _ h9 => h9) rfl (tyX10_ok 12 (by decide)) rfl rfl (Nat.le_of_ble_eq_true rfl) dX10_day_17 (fun H locs => ?_)
    clear hP hD hS
    intro hP hD hS
    replace hP : va_P D vwCl [(oC10 ad tn d lf)] H := hP
    replace hD : va_D A [(oC10 ad tn d lf)] := hD
    refine lv_iload_n hx hb dX10_day_20 rfl (lv_at hl 0 rfl) ?_
    have hP9 := hP
    have hD9 := hD
    exact W.iret (v := td) hx hb hr (fun t ht hW => ⟨⟨td, d, rfl, (by unfold sp_day; (repeat' split) <;> first | rfl | (exfalso; omega) | (subst_vars; rfl)), by rw [ht]; exact hP9, va_K.moved hW.alike hK, hD9⟩, hS.F ht⟩) hS.2.2 dX10_day_21
  · skip
    have f6 := bo_f hw2 c4
    refine lv_ldc hx hb hown (hts (Cond.constant RX10 89 (-1000001)) (wm_t (wm_l (wm_i 0 rfl)))) dX10_day_7 ?_
    have hP9 := hP
    have hD9 := hD
    exact W.iret (v := (-1000001)) hx hb hr (fun t ht hW => ⟨⟨(-1000001), td, rfl, (by unfold sp_day; (repeat' split) <;> first | rfl | (exfalso; omega) | (subst_vars; rfl)), by rw [ht]; exact hP9, va_K.moved hW.alike hK, hD9⟩, hS.F ht⟩) hS.2.2 dX10_day_9

set_option maxHeartbeats 4000000 in
set_option maxRecDepth 100000 in
theorem ct_X10_fault (l : Launch) (D : va_G) (cI cY cJ cQ : ClassId) (sz : Nat) (ad : Nat → Nat) (tn td lf ln lfa dl dr bs be tk nb : Int32)   : Met l yX10_fault wsX10_fault ({ frames := 0, cells := 0, slots := 0, locals := 0 }) (cPre D (ty4 cI cY cJ cQ) [(oC10 ad tn td lf), (oC2 ad ln lfa dl dr bs be tk nb)] sz [.ref (ad 0)]) (va_Qi (fun (r : Int32) (u : Unit) => r = lfa) (cB D (ty4 cI cY cJ cQ) (fun (u : Unit) => [(oC10 ad tn td lf), (oC2 ad ln lfa dl dr bs be tk nb)]) (va_A [(oC10 ad tn td lf), (oC2 ad ln lfa dl dr bs be tk nb)] sz)) (va_A [(oC10 ad tn td lf), (oC2 ad ln lfa dl dr bs be tk nb)] sz)) 0 0 (va_A [(oC10 ad tn td lf), (oC2 ad ln lfa dl dr bs be tk nb)] sz) := by
  refine Met.ofW (cc := cX10_fault) (maxL := 1) (ret := (some .int)) (by decide) rfl ?_
  intro p e s m args below meth c s₁ B hml hv
  obtain ⟨rfl, hsz, hP, hK, hD0, hN⟩ := hv
  have hx := B.exec
  have hb := B.bytes
  have hr := B.returns
  have hts := atoms_spec (ws := wsX10_fault) B.pre
  have hown : s.vm.findClass RX10 = some m.cls := findClass_of_methodNamed B.named
  have hlocks := B.notSynchronized
  subst hsz
  have hD := hD0.self (sz := s.heap.size)
  generalize hAe : va_A [(oC10 ad tn td lf), (oC2 ad ln lfa dl dr bs be tk nb)] s.heap.size = A at hD ⊢
  have hA : ∀ q : Nat, s.heap.size ≤ q → A q := fun q h => by rw [← hAe]; exact Or.inr h
  have hS : va_S A s.heap s.heap [] := va_S.rf
  have hP : va_P D vwCl [(oC10 ad tn td lf), (oC2 ad ln lfa dl dr bs be tk nb)] s.heap := hP
  have hl := lv_entry ([.ref (ad 0)]) (n := 1) (Nat.le_of_ble_eq_true rfl)
  rw [lg_entry_eq]
  generalize (lg_sl ([.ref (ad 0)]) ++ List.replicate (1 - (lg_sl ([.ref (ad 0)])).length) Slot.unset).toArray = ls at hl ⊢
  have hl : lv_has ls 1 [(0, .ref (ad 0))] := hl
  refine lv_aload_n hx hb dX10_fault_0 rfl (lv_at hl 0 rfl) ?_
  refine va_get (D := D) (ci := 10) (v := .ref (ad 6)) (C := RX10) (T := TX10) (N := 14) hx hb hts inX10_fault_X10 hown hK hP 0 rfl rfl 5 (by decide) (hts (Cond.fieldLink RX10 47 "PortRooms" "duties" "LPortRooms$Duties;") (wm_t (wm_l (wm_i 0 rfl)))) (fun _ h9 => h9) rfl dX10_fault_1 ?_
  refine va_get (D := D) (ci := 2) (v := .int lfa) (C := RX2) (T := TX2) (N := 15) hx hb hts inX10_fault_X2 hown hK hP 1 rfl rfl 2 (by decide) (hts (Cond.fieldLink RX10 224 "PortRooms$Duties" "latestFault" "I") (wm_t (wm_l (wm_i 1 rfl)))) (fun _ h9 => h9) rfl dX10_fault_4 ?_
  have hP9 := hP
  have hD9 := hD
  exact W.iret (v := lfa) hx hb hr (fun t ht hW => ⟨⟨lfa, (), rfl, rfl, by rw [ht]; exact hP9, va_K.moved hW.alike hK, hD9⟩, hS.F ht⟩) hS.2.2 dX10_fault_7
end

section
theorem Gd_X00 : gdA wsX00 := gd_all (by decide +kernel)
theorem cdX0_tell : yX0_tell.cls ≠ "java/lang/invoke/MethodHandle" ∧ yX0_tell.cls ≠ "java/lang/invoke/VarHandle" ∧ (parseMethodDescriptor yX0_tell.desc).map (fun d => d.parameters.length) = some 4 := by decide +kernel
theorem Gd_X10 : gdA wsX10 := gd_all (by decide +kernel)
theorem cdX1_tell : yX1_tell.cls ≠ "java/lang/invoke/MethodHandle" ∧ yX1_tell.cls ≠ "java/lang/invoke/VarHandle" ∧ (parseMethodDescriptor yX1_tell.desc).map (fun d => d.parameters.length) = some 2 := by decide +kernel
theorem Gd_X30 : gdA wsX30 := gd_all (by decide +kernel)
theorem cdX3_tell : yX3_tell.cls ≠ "java/lang/invoke/MethodHandle" ∧ yX3_tell.cls ≠ "java/lang/invoke/VarHandle" ∧ (parseMethodDescriptor yX3_tell.desc).map (fun d => d.parameters.length) = some 4 := by decide +kernel
theorem Gd_X40 : gdA wsX40 := gd_all (by decide +kernel)
theorem cdX4_tell : yX4_tell.cls ≠ "java/lang/invoke/MethodHandle" ∧ yX4_tell.cls ≠ "java/lang/invoke/VarHandle" ∧ (parseMethodDescriptor yX4_tell.desc).map (fun d => d.parameters.length) = some 3 := by decide +kernel
theorem Gd_X60 : gdA wsX60 := gd_all (by decide +kernel)
theorem cdX6_tell : yX6_tell.cls ≠ "java/lang/invoke/MethodHandle" ∧ yX6_tell.cls ≠ "java/lang/invoke/VarHandle" ∧ (parseMethodDescriptor yX6_tell.desc).map (fun d => d.parameters.length) = some 4 := by decide +kernel
theorem Gd_X80 : gdA wsX80 := gd_all (by decide +kernel)
theorem cdX8_tell : yX8_tell.cls ≠ "java/lang/invoke/MethodHandle" ∧ yX8_tell.cls ≠ "java/lang/invoke/VarHandle" ∧ (parseMethodDescriptor yX8_tell.desc).map (fun d => d.parameters.length) = some 4 := by decide +kernel
theorem Gd_X100 : gdA wsX100 := gd_all (by decide +kernel)
theorem cdX10_isFrom : yX10_isFrom.cls ≠ "java/lang/invoke/MethodHandle" ∧ yX10_isFrom.cls ≠ "java/lang/invoke/VarHandle" ∧ (parseMethodDescriptor yX10_isFrom.desc).map (fun d => d.parameters.length) = some 3 := by decide +kernel
theorem cdX10_areDays : yX10_areDays.cls ≠ "java/lang/invoke/MethodHandle" ∧ yX10_areDays.cls ≠ "java/lang/invoke/VarHandle" ∧ (parseMethodDescriptor yX10_areDays.desc).map (fun d => d.parameters.length) = some 2 := by decide +kernel
theorem cdX10_isPair : yX10_isPair.cls ≠ "java/lang/invoke/MethodHandle" ∧ yX10_isPair.cls ≠ "java/lang/invoke/VarHandle" ∧ (parseMethodDescriptor yX10_isPair.desc).map (fun d => d.parameters.length) = some 2 := by decide +kernel
theorem cdX10_isCrate : yX10_isCrate.cls ≠ "java/lang/invoke/MethodHandle" ∧ yX10_isCrate.cls ≠ "java/lang/invoke/VarHandle" ∧ (parseMethodDescriptor yX10_isCrate.desc).map (fun d => d.parameters.length) = some 1 := by decide +kernel
theorem Gd_X0_tell : gdA wsX0_tell := gd_cons (by decide +kernel) (gd_app (gd_all (ws := wsX0_tell_o1) (by decide +kernel)) Gd_X00)
theorem inX0_tell_X0 : ∀ w ∈ u_ws RX0 TX0 5, w ∈ wsX0_tell := fun _ h => (List.mem_cons_of_mem _ (List.mem_append_right _ h))
theorem Gd_X1_tell : gdA wsX1_tell := gd_cons (by decide +kernel) (gd_app (gd_all (ws := wsX1_tell_o1) (by decide +kernel)) Gd_X10)
theorem inX1_tell_X1 : ∀ w ∈ u_ws RX1 TX1 6, w ∈ wsX1_tell := fun _ h => (List.mem_cons_of_mem _ (List.mem_append_right _ h))
theorem Gd_X3_tell : gdA wsX3_tell := gd_cons (by decide +kernel) (gd_app (gd_all (ws := wsX3_tell_o1) (by decide +kernel)) Gd_X30)
theorem inX3_tell_X3 : ∀ w ∈ u_ws RX3 TX3 9, w ∈ wsX3_tell := fun _ h => (List.mem_cons_of_mem _ (List.mem_append_right _ h))
theorem Gd_X4_tell : gdA wsX4_tell := gd_cons (by decide +kernel) (gd_app (gd_all (ws := wsX4_tell_o1) (by decide +kernel)) Gd_X40)
theorem inX4_tell_X4 : ∀ w ∈ u_ws RX4 TX4 4, w ∈ wsX4_tell := fun _ h => (List.mem_cons_of_mem _ (List.mem_append_right _ h))
theorem Gd_X6_tell : gdA wsX6_tell := gd_cons (by decide +kernel) (gd_app (gd_all (ws := wsX6_tell_o1) (by decide +kernel)) Gd_X60)
theorem inX6_tell_X6 : ∀ w ∈ u_ws RX6 TX6 5, w ∈ wsX6_tell := fun _ h => (List.mem_cons_of_mem _ (List.mem_append_right _ h))
theorem Gd_X8_tell : gdA wsX8_tell := gd_cons (by decide +kernel) (gd_app (gd_all (ws := wsX8_tell_o1) (by decide +kernel)) Gd_X80)
theorem inX8_tell_X8 : ∀ w ∈ u_ws RX8 TX8 6, w ∈ wsX8_tell := fun _ h => (List.mem_cons_of_mem _ (List.mem_append_right _ h))
theorem Gd_X10_isPair : gdA wsX10_isPair := gd_cons (by decide +kernel) (gd_app (gd_all (ws := wsX10_isPair_o1) (by decide +kernel)) (gd_app Gd_X10_isOwner Gd_X10_isPerson))
theorem Gd_X10_isFrom : gdA wsX10_isFrom := gd_cons (by decide +kernel) (gd_all (ws := []) rfl)
theorem inX10_hold_X3 : ∀ w ∈ u_ws RX3 TX3 9, w ∈ wsX10_hold := fun _ h => (List.mem_cons_of_mem _ (List.mem_append_right _ (List.mem_append_left _ (List.mem_append_left _ (List.mem_append_right _ h)))))
theorem inX10_hold_X10 : ∀ w ∈ u_ws RX10 TX10 14, w ∈ wsX10_hold := fun _ h => (List.mem_cons_of_mem _ (List.mem_append_right _ (List.mem_append_left _ (List.mem_append_left _ (List.mem_append_left _ h)))))
theorem inX10_crate_X10 : ∀ w ∈ u_ws RX10 TX10 14, w ∈ wsX10_crate := fun _ h => (List.mem_cons_of_mem _ (List.mem_append_right _ (List.mem_append_left _ (List.mem_append_left _ (List.mem_append_left _ h)))))
theorem inX10_crate_X1 : ∀ w ∈ u_ws RX1 TX1 6, w ∈ wsX10_crate := fun _ h => (List.mem_cons_of_mem _ (List.mem_append_right _ (List.mem_append_left _ (List.mem_append_left _ (List.mem_append_right _ h)))))
theorem Gd_X10_isCrate : gdA wsX10_isCrate := gd_cons (by decide +kernel) (gd_app (gd_all (ws := wsX10_isCrate_o1) (by decide +kernel)) (gd_app (gd_app Gd_X100 Gd_X10) Gd_X10_isBelow))
theorem Gd_X10_areDays : gdA wsX10_areDays := gd_cons (by decide +kernel) (gd_app (gd_all (ws := wsX10_areDays_o1) (by decide +kernel)) Gd_X10_isDay)
theorem inX10_pledge_X10 : ∀ w ∈ u_ws RX10 TX10 14, w ∈ wsX10_pledge := fun _ h => (List.mem_cons_of_mem _ (List.mem_append_right _ (List.mem_append_left _ (List.mem_append_left _ (List.mem_append_left _ h)))))
theorem inX10_pledge_X8 : ∀ w ∈ u_ws RX8 TX8 6, w ∈ wsX10_pledge := fun _ h => (List.mem_cons_of_mem _ (List.mem_append_right _ (List.mem_append_left _ (List.mem_append_left _ (List.mem_append_right _ h)))))
theorem inX10_act_X10 : ∀ w ∈ u_ws RX10 TX10 14, w ∈ wsX10_act := fun _ h => (List.mem_cons_of_mem _ (List.mem_append_right _ (List.mem_append_left _ (List.mem_append_left _ (List.mem_append_left _ h)))))
theorem inX10_act_X0 : ∀ w ∈ u_ws RX0 TX0 5, w ∈ wsX10_act := fun _ h => (List.mem_cons_of_mem _ (List.mem_append_right _ (List.mem_append_left _ (List.mem_append_left _ (List.mem_append_right _ h)))))
theorem inX10_opened_X6 : ∀ w ∈ u_ws RX6 TX6 5, w ∈ wsX10_opened := fun _ h => (List.mem_cons_of_mem _ (List.mem_append_right _ (List.mem_append_left _ (List.mem_append_left _ (List.mem_append_right _ h)))))
theorem inX10_opened_X10 : ∀ w ∈ u_ws RX10 TX10 14, w ∈ wsX10_opened := fun _ h => (List.mem_cons_of_mem _ (List.mem_append_right _ (List.mem_append_left _ (List.mem_append_left _ (List.mem_append_left _ h)))))
theorem inX10_list_X4 : ∀ w ∈ u_ws RX4 TX4 4, w ∈ wsX10_list := fun _ h => (List.mem_cons_of_mem _ (List.mem_append_right _ (List.mem_append_left _ (List.mem_append_left _ (List.mem_append_right _ h)))))
theorem inX10_list_X10 : ∀ w ∈ u_ws RX10 TX10 14, w ∈ wsX10_list := fun _ h => (List.mem_cons_of_mem _ (List.mem_append_right _ (List.mem_append_left _ (List.mem_append_left _ (List.mem_append_left _ h)))))
theorem dX0_tell_all0 : decode cX0_tell 0 = .ok (.aload_n 0, 1) ∧ decode cX0_tell 1 = .ok (.getfield 9, 3) ∧ decode cX0_tell 4 = .ok (.aload_n 0, 1) ∧ decode cX0_tell 5 = .ok (.getfield 24, 3) ∧ decode cX0_tell 8 = .ok (.iload_n 1, 1) ∧ decode cX0_tell 9 = .ok (.iastore, 1) ∧ decode cX0_tell 10 = .ok (.aload_n 0, 1) ∧ decode cX0_tell 11 = .ok (.getfield 15, 3) ∧ decode cX0_tell 14 = .ok (.aload_n 0, 1) ∧ decode cX0_tell 15 = .ok (.getfield 24, 3) ∧ decode cX0_tell 18 = .ok (.iload_n 2, 1) ∧ decode cX0_tell 19 = .ok (.iastore, 1) := by decide +kernel
theorem dX0_tell_0 : decode cX0_tell 0 = .ok (.aload_n 0, 1) := dX0_tell_all0.1
theorem dX0_tell_1 : decode cX0_tell 1 = .ok (.getfield 9, 3) := dX0_tell_all0.2.1
theorem dX0_tell_4 : decode cX0_tell 4 = .ok (.aload_n 0, 1) := dX0_tell_all0.2.2.1
theorem dX0_tell_5 : decode cX0_tell 5 = .ok (.getfield 24, 3) := dX0_tell_all0.2.2.2.1
theorem dX0_tell_8 : decode cX0_tell 8 = .ok (.iload_n 1, 1) := dX0_tell_all0.2.2.2.2.1
theorem dX0_tell_9 : decode cX0_tell 9 = .ok (.iastore, 1) := dX0_tell_all0.2.2.2.2.2.1
theorem dX0_tell_10 : decode cX0_tell 10 = .ok (.aload_n 0, 1) := dX0_tell_all0.2.2.2.2.2.2.1
theorem dX0_tell_11 : decode cX0_tell 11 = .ok (.getfield 15, 3) := dX0_tell_all0.2.2.2.2.2.2.2.1
theorem dX0_tell_14 : decode cX0_tell 14 = .ok (.aload_n 0, 1) := dX0_tell_all0.2.2.2.2.2.2.2.2.1
theorem dX0_tell_15 : decode cX0_tell 15 = .ok (.getfield 24, 3) := dX0_tell_all0.2.2.2.2.2.2.2.2.2.1
theorem dX0_tell_18 : decode cX0_tell 18 = .ok (.iload_n 2, 1) := dX0_tell_all0.2.2.2.2.2.2.2.2.2.2.1
theorem dX0_tell_19 : decode cX0_tell 19 = .ok (.iastore, 1) := dX0_tell_all0.2.2.2.2.2.2.2.2.2.2.2
theorem dX0_tell_all1 : decode cX0_tell 20 = .ok (.aload_n 0, 1) ∧ decode cX0_tell 21 = .ok (.getfield 18, 3) ∧ decode cX0_tell 24 = .ok (.aload_n 0, 1) ∧ decode cX0_tell 25 = .ok (.getfield 24, 3) ∧ decode cX0_tell 28 = .ok (.iload_n 3, 1) ∧ decode cX0_tell 29 = .ok (.iastore, 1) ∧ decode cX0_tell 30 = .ok (.aload_n 0, 1) ∧ decode cX0_tell 31 = .ok (.getfield 21, 3) ∧ decode cX0_tell 34 = .ok (.aload_n 0, 1) ∧ decode cX0_tell 35 = .ok (.getfield 24, 3) ∧ decode cX0_tell 38 = .ok (.iload 4, 2) ∧ decode cX0_tell 40 = .ok (.iastore, 1) := by decide +kernel
theorem dX0_tell_20 : decode cX0_tell 20 = .ok (.aload_n 0, 1) := dX0_tell_all1.1
theorem dX0_tell_21 : decode cX0_tell 21 = .ok (.getfield 18, 3) := dX0_tell_all1.2.1
theorem dX0_tell_24 : decode cX0_tell 24 = .ok (.aload_n 0, 1) := dX0_tell_all1.2.2.1
theorem dX0_tell_25 : decode cX0_tell 25 = .ok (.getfield 24, 3) := dX0_tell_all1.2.2.2.1
theorem dX0_tell_28 : decode cX0_tell 28 = .ok (.iload_n 3, 1) := dX0_tell_all1.2.2.2.2.1
theorem dX0_tell_29 : decode cX0_tell 29 = .ok (.iastore, 1) := dX0_tell_all1.2.2.2.2.2.1
theorem dX0_tell_30 : decode cX0_tell 30 = .ok (.aload_n 0, 1) := dX0_tell_all1.2.2.2.2.2.2.1
theorem dX0_tell_31 : decode cX0_tell 31 = .ok (.getfield 21, 3) := dX0_tell_all1.2.2.2.2.2.2.2.1
theorem dX0_tell_34 : decode cX0_tell 34 = .ok (.aload_n 0, 1) := dX0_tell_all1.2.2.2.2.2.2.2.2.1
theorem dX0_tell_35 : decode cX0_tell 35 = .ok (.getfield 24, 3) := dX0_tell_all1.2.2.2.2.2.2.2.2.2.1
theorem dX0_tell_38 : decode cX0_tell 38 = .ok (.iload 4, 2) := dX0_tell_all1.2.2.2.2.2.2.2.2.2.2.1
theorem dX0_tell_40 : decode cX0_tell 40 = .ok (.iastore, 1) := dX0_tell_all1.2.2.2.2.2.2.2.2.2.2.2
theorem dX0_tell_all2 : decode cX0_tell 41 = .ok (.aload_n 0, 1) ∧ decode cX0_tell 42 = .ok (.dup, 1) ∧ decode cX0_tell 43 = .ok (.getfield 24, 3) ∧ decode cX0_tell 46 = .ok (.iconst 1, 1) ∧ decode cX0_tell 47 = .ok (.iadd, 1) ∧ decode cX0_tell 48 = .ok (.putfield 24, 3) ∧ decode cX0_tell 51 = .ok (.aload_n 0, 1) ∧ decode cX0_tell 52 = .ok (.getfield 24, 3) ∧ decode cX0_tell 55 = .ok (.ireturn, 1) := by decide +kernel
theorem dX0_tell_41 : decode cX0_tell 41 = .ok (.aload_n 0, 1) := dX0_tell_all2.1
theorem dX0_tell_42 : decode cX0_tell 42 = .ok (.dup, 1) := dX0_tell_all2.2.1
theorem dX0_tell_43 : decode cX0_tell 43 = .ok (.getfield 24, 3) := dX0_tell_all2.2.2.1
theorem dX0_tell_46 : decode cX0_tell 46 = .ok (.iconst 1, 1) := dX0_tell_all2.2.2.2.1
theorem dX0_tell_47 : decode cX0_tell 47 = .ok (.iadd, 1) := dX0_tell_all2.2.2.2.2.1
theorem dX0_tell_48 : decode cX0_tell 48 = .ok (.putfield 24, 3) := dX0_tell_all2.2.2.2.2.2.1
theorem dX0_tell_51 : decode cX0_tell 51 = .ok (.aload_n 0, 1) := dX0_tell_all2.2.2.2.2.2.2.1
theorem dX0_tell_52 : decode cX0_tell 52 = .ok (.getfield 24, 3) := dX0_tell_all2.2.2.2.2.2.2.2.1
theorem dX0_tell_55 : decode cX0_tell 55 = .ok (.ireturn, 1) := dX0_tell_all2.2.2.2.2.2.2.2.2
theorem dX1_tell_all0 : decode cX1_tell 0 = .ok (.aload_n 0, 1) ∧ decode cX1_tell 1 = .ok (.getfield 9, 3) ∧ decode cX1_tell 4 = .ok (.aload_n 0, 1) ∧ decode cX1_tell 5 = .ok (.getfield 35, 3) ∧ decode cX1_tell 8 = .ok (.iload_n 1, 1) ∧ decode cX1_tell 9 = .ok (.iastore, 1) ∧ decode cX1_tell 10 = .ok (.aload_n 0, 1) ∧ decode cX1_tell 11 = .ok (.getfield 15, 3) ∧ decode cX1_tell 14 = .ok (.aload_n 0, 1) ∧ decode cX1_tell 15 = .ok (.getfield 35, 3) ∧ decode cX1_tell 18 = .ok (.iload_n 2, 1) ∧ decode cX1_tell 19 = .ok (.iastore, 1) := by decide +kernel
theorem dX1_tell_0 : decode cX1_tell 0 = .ok (.aload_n 0, 1) := dX1_tell_all0.1
theorem dX1_tell_1 : decode cX1_tell 1 = .ok (.getfield 9, 3) := dX1_tell_all0.2.1
theorem dX1_tell_4 : decode cX1_tell 4 = .ok (.aload_n 0, 1) := dX1_tell_all0.2.2.1
theorem dX1_tell_5 : decode cX1_tell 5 = .ok (.getfield 35, 3) := dX1_tell_all0.2.2.2.1
theorem dX1_tell_8 : decode cX1_tell 8 = .ok (.iload_n 1, 1) := dX1_tell_all0.2.2.2.2.1
theorem dX1_tell_9 : decode cX1_tell 9 = .ok (.iastore, 1) := dX1_tell_all0.2.2.2.2.2.1
theorem dX1_tell_10 : decode cX1_tell 10 = .ok (.aload_n 0, 1) := dX1_tell_all0.2.2.2.2.2.2.1
theorem dX1_tell_11 : decode cX1_tell 11 = .ok (.getfield 15, 3) := dX1_tell_all0.2.2.2.2.2.2.2.1
theorem dX1_tell_14 : decode cX1_tell 14 = .ok (.aload_n 0, 1) := dX1_tell_all0.2.2.2.2.2.2.2.2.1
theorem dX1_tell_15 : decode cX1_tell 15 = .ok (.getfield 35, 3) := dX1_tell_all0.2.2.2.2.2.2.2.2.2.1
theorem dX1_tell_18 : decode cX1_tell 18 = .ok (.iload_n 2, 1) := dX1_tell_all0.2.2.2.2.2.2.2.2.2.2.1
theorem dX1_tell_19 : decode cX1_tell 19 = .ok (.iastore, 1) := dX1_tell_all0.2.2.2.2.2.2.2.2.2.2.2
theorem dX1_tell_all1 : decode cX1_tell 20 = .ok (.aload_n 0, 1) ∧ decode cX1_tell 21 = .ok (.dup, 1) ∧ decode cX1_tell 22 = .ok (.getfield 35, 3) ∧ decode cX1_tell 25 = .ok (.iconst 1, 1) ∧ decode cX1_tell 26 = .ok (.iadd, 1) ∧ decode cX1_tell 27 = .ok (.putfield 35, 3) ∧ decode cX1_tell 30 = .ok (.aload_n 0, 1) ∧ decode cX1_tell 31 = .ok (.getfield 35, 3) ∧ decode cX1_tell 34 = .ok (.iconst 1, 1) ∧ decode cX1_tell 35 = .ok (.isub, 1) ∧ decode cX1_tell 36 = .ok (.ireturn, 1) := by decide +kernel
theorem dX1_tell_20 : decode cX1_tell 20 = .ok (.aload_n 0, 1) := dX1_tell_all1.1
theorem dX1_tell_21 : decode cX1_tell 21 = .ok (.dup, 1) := dX1_tell_all1.2.1
theorem dX1_tell_22 : decode cX1_tell 22 = .ok (.getfield 35, 3) := dX1_tell_all1.2.2.1
theorem dX1_tell_25 : decode cX1_tell 25 = .ok (.iconst 1, 1) := dX1_tell_all1.2.2.2.1
theorem dX1_tell_26 : decode cX1_tell 26 = .ok (.iadd, 1) := dX1_tell_all1.2.2.2.2.1
theorem dX1_tell_27 : decode cX1_tell 27 = .ok (.putfield 35, 3) := dX1_tell_all1.2.2.2.2.2.1
theorem dX1_tell_30 : decode cX1_tell 30 = .ok (.aload_n 0, 1) := dX1_tell_all1.2.2.2.2.2.2.1
theorem dX1_tell_31 : decode cX1_tell 31 = .ok (.getfield 35, 3) := dX1_tell_all1.2.2.2.2.2.2.2.1
theorem dX1_tell_34 : decode cX1_tell 34 = .ok (.iconst 1, 1) := dX1_tell_all1.2.2.2.2.2.2.2.2.1
theorem dX1_tell_35 : decode cX1_tell 35 = .ok (.isub, 1) := dX1_tell_all1.2.2.2.2.2.2.2.2.2.1
theorem dX1_tell_36 : decode cX1_tell 36 = .ok (.ireturn, 1) := dX1_tell_all1.2.2.2.2.2.2.2.2.2.2
theorem dX3_tell_all0 : decode cX3_tell 0 = .ok (.aload_n 0, 1) ∧ decode cX3_tell 1 = .ok (.getfield 9, 3) ∧ decode cX3_tell 4 = .ok (.aload_n 0, 1) ∧ decode cX3_tell 5 = .ok (.getfield 36, 3) ∧ decode cX3_tell 8 = .ok (.iload_n 1, 1) ∧ decode cX3_tell 9 = .ok (.iastore, 1) ∧ decode cX3_tell 10 = .ok (.aload_n 0, 1) ∧ decode cX3_tell 11 = .ok (.getfield 15, 3) ∧ decode cX3_tell 14 = .ok (.aload_n 0, 1) ∧ decode cX3_tell 15 = .ok (.getfield 36, 3) ∧ decode cX3_tell 18 = .ok (.iload_n 2, 1) ∧ decode cX3_tell 19 = .ok (.iastore, 1) := by decide +kernel
theorem dX3_tell_0 : decode cX3_tell 0 = .ok (.aload_n 0, 1) := dX3_tell_all0.1
theorem dX3_tell_1 : decode cX3_tell 1 = .ok (.getfield 9, 3) := dX3_tell_all0.2.1
theorem dX3_tell_4 : decode cX3_tell 4 = .ok (.aload_n 0, 1) := dX3_tell_all0.2.2.1
theorem dX3_tell_5 : decode cX3_tell 5 = .ok (.getfield 36, 3) := dX3_tell_all0.2.2.2.1
theorem dX3_tell_8 : decode cX3_tell 8 = .ok (.iload_n 1, 1) := dX3_tell_all0.2.2.2.2.1
theorem dX3_tell_9 : decode cX3_tell 9 = .ok (.iastore, 1) := dX3_tell_all0.2.2.2.2.2.1
theorem dX3_tell_10 : decode cX3_tell 10 = .ok (.aload_n 0, 1) := dX3_tell_all0.2.2.2.2.2.2.1
theorem dX3_tell_11 : decode cX3_tell 11 = .ok (.getfield 15, 3) := dX3_tell_all0.2.2.2.2.2.2.2.1
theorem dX3_tell_14 : decode cX3_tell 14 = .ok (.aload_n 0, 1) := dX3_tell_all0.2.2.2.2.2.2.2.2.1
theorem dX3_tell_15 : decode cX3_tell 15 = .ok (.getfield 36, 3) := dX3_tell_all0.2.2.2.2.2.2.2.2.2.1
theorem dX3_tell_18 : decode cX3_tell 18 = .ok (.iload_n 2, 1) := dX3_tell_all0.2.2.2.2.2.2.2.2.2.2.1
theorem dX3_tell_19 : decode cX3_tell 19 = .ok (.iastore, 1) := dX3_tell_all0.2.2.2.2.2.2.2.2.2.2.2
theorem dX3_tell_all1 : decode cX3_tell 20 = .ok (.aload_n 0, 1) ∧ decode cX3_tell 21 = .ok (.getfield 18, 3) ∧ decode cX3_tell 24 = .ok (.aload_n 0, 1) ∧ decode cX3_tell 25 = .ok (.getfield 36, 3) ∧ decode cX3_tell 28 = .ok (.iload_n 3, 1) ∧ decode cX3_tell 29 = .ok (.iastore, 1) ∧ decode cX3_tell 30 = .ok (.aload_n 0, 1) ∧ decode cX3_tell 31 = .ok (.getfield 21, 3) ∧ decode cX3_tell 34 = .ok (.aload_n 0, 1) ∧ decode cX3_tell 35 = .ok (.getfield 36, 3) ∧ decode cX3_tell 38 = .ok (.iload 4, 2) ∧ decode cX3_tell 40 = .ok (.iastore, 1) := by decide +kernel
theorem dX3_tell_20 : decode cX3_tell 20 = .ok (.aload_n 0, 1) := dX3_tell_all1.1
theorem dX3_tell_21 : decode cX3_tell 21 = .ok (.getfield 18, 3) := dX3_tell_all1.2.1
theorem dX3_tell_24 : decode cX3_tell 24 = .ok (.aload_n 0, 1) := dX3_tell_all1.2.2.1
theorem dX3_tell_25 : decode cX3_tell 25 = .ok (.getfield 36, 3) := dX3_tell_all1.2.2.2.1
theorem dX3_tell_28 : decode cX3_tell 28 = .ok (.iload_n 3, 1) := dX3_tell_all1.2.2.2.2.1
theorem dX3_tell_29 : decode cX3_tell 29 = .ok (.iastore, 1) := dX3_tell_all1.2.2.2.2.2.1
theorem dX3_tell_30 : decode cX3_tell 30 = .ok (.aload_n 0, 1) := dX3_tell_all1.2.2.2.2.2.2.1
theorem dX3_tell_31 : decode cX3_tell 31 = .ok (.getfield 21, 3) := dX3_tell_all1.2.2.2.2.2.2.2.1
theorem dX3_tell_34 : decode cX3_tell 34 = .ok (.aload_n 0, 1) := dX3_tell_all1.2.2.2.2.2.2.2.2.1
theorem dX3_tell_35 : decode cX3_tell 35 = .ok (.getfield 36, 3) := dX3_tell_all1.2.2.2.2.2.2.2.2.2.1
theorem dX3_tell_38 : decode cX3_tell 38 = .ok (.iload 4, 2) := dX3_tell_all1.2.2.2.2.2.2.2.2.2.2.1
theorem dX3_tell_40 : decode cX3_tell 40 = .ok (.iastore, 1) := dX3_tell_all1.2.2.2.2.2.2.2.2.2.2.2
theorem dX3_tell_all2 : decode cX3_tell 41 = .ok (.aload_n 0, 1) ∧ decode cX3_tell 42 = .ok (.dup, 1) ∧ decode cX3_tell 43 = .ok (.getfield 36, 3) ∧ decode cX3_tell 46 = .ok (.iconst 1, 1) ∧ decode cX3_tell 47 = .ok (.iadd, 1) ∧ decode cX3_tell 48 = .ok (.putfield 36, 3) ∧ decode cX3_tell 51 = .ok (.aload_n 0, 1) ∧ decode cX3_tell 52 = .ok (.getfield 36, 3) ∧ decode cX3_tell 55 = .ok (.ireturn, 1) := by decide +kernel
theorem dX3_tell_41 : decode cX3_tell 41 = .ok (.aload_n 0, 1) := dX3_tell_all2.1
theorem dX3_tell_42 : decode cX3_tell 42 = .ok (.dup, 1) := dX3_tell_all2.2.1
theorem dX3_tell_43 : decode cX3_tell 43 = .ok (.getfield 36, 3) := dX3_tell_all2.2.2.1
theorem dX3_tell_46 : decode cX3_tell 46 = .ok (.iconst 1, 1) := dX3_tell_all2.2.2.2.1
theorem dX3_tell_47 : decode cX3_tell 47 = .ok (.iadd, 1) := dX3_tell_all2.2.2.2.2.1
theorem dX3_tell_48 : decode cX3_tell 48 = .ok (.putfield 36, 3) := dX3_tell_all2.2.2.2.2.2.1
theorem dX3_tell_51 : decode cX3_tell 51 = .ok (.aload_n 0, 1) := dX3_tell_all2.2.2.2.2.2.2.1
theorem dX3_tell_52 : decode cX3_tell 52 = .ok (.getfield 36, 3) := dX3_tell_all2.2.2.2.2.2.2.2.1
theorem dX3_tell_55 : decode cX3_tell 55 = .ok (.ireturn, 1) := dX3_tell_all2.2.2.2.2.2.2.2.2
theorem dX4_tell_all0 : decode cX4_tell 0 = .ok (.aload_n 0, 1) ∧ decode cX4_tell 1 = .ok (.getfield 9, 3) ∧ decode cX4_tell 4 = .ok (.aload_n 0, 1) ∧ decode cX4_tell 5 = .ok (.getfield 21, 3) ∧ decode cX4_tell 8 = .ok (.iload_n 1, 1) ∧ decode cX4_tell 9 = .ok (.iastore, 1) ∧ decode cX4_tell 10 = .ok (.aload_n 0, 1) ∧ decode cX4_tell 11 = .ok (.getfield 15, 3) ∧ decode cX4_tell 14 = .ok (.aload_n 0, 1) ∧ decode cX4_tell 15 = .ok (.getfield 21, 3) ∧ decode cX4_tell 18 = .ok (.iload_n 2, 1) ∧ decode cX4_tell 19 = .ok (.iastore, 1) := by decide +kernel
theorem dX4_tell_0 : decode cX4_tell 0 = .ok (.aload_n 0, 1) := dX4_tell_all0.1
theorem dX4_tell_1 : decode cX4_tell 1 = .ok (.getfield 9, 3) := dX4_tell_all0.2.1
theorem dX4_tell_4 : decode cX4_tell 4 = .ok (.aload_n 0, 1) := dX4_tell_all0.2.2.1
theorem dX4_tell_5 : decode cX4_tell 5 = .ok (.getfield 21, 3) := dX4_tell_all0.2.2.2.1
theorem dX4_tell_8 : decode cX4_tell 8 = .ok (.iload_n 1, 1) := dX4_tell_all0.2.2.2.2.1
theorem dX4_tell_9 : decode cX4_tell 9 = .ok (.iastore, 1) := dX4_tell_all0.2.2.2.2.2.1
theorem dX4_tell_10 : decode cX4_tell 10 = .ok (.aload_n 0, 1) := dX4_tell_all0.2.2.2.2.2.2.1
theorem dX4_tell_11 : decode cX4_tell 11 = .ok (.getfield 15, 3) := dX4_tell_all0.2.2.2.2.2.2.2.1
theorem dX4_tell_14 : decode cX4_tell 14 = .ok (.aload_n 0, 1) := dX4_tell_all0.2.2.2.2.2.2.2.2.1
theorem dX4_tell_15 : decode cX4_tell 15 = .ok (.getfield 21, 3) := dX4_tell_all0.2.2.2.2.2.2.2.2.2.1
theorem dX4_tell_18 : decode cX4_tell 18 = .ok (.iload_n 2, 1) := dX4_tell_all0.2.2.2.2.2.2.2.2.2.2.1
theorem dX4_tell_19 : decode cX4_tell 19 = .ok (.iastore, 1) := dX4_tell_all0.2.2.2.2.2.2.2.2.2.2.2
theorem dX4_tell_all1 : decode cX4_tell 20 = .ok (.aload_n 0, 1) ∧ decode cX4_tell 21 = .ok (.getfield 18, 3) ∧ decode cX4_tell 24 = .ok (.aload_n 0, 1) ∧ decode cX4_tell 25 = .ok (.getfield 21, 3) ∧ decode cX4_tell 28 = .ok (.iload_n 3, 1) ∧ decode cX4_tell 29 = .ok (.iastore, 1) ∧ decode cX4_tell 30 = .ok (.aload_n 0, 1) ∧ decode cX4_tell 31 = .ok (.dup, 1) ∧ decode cX4_tell 32 = .ok (.getfield 21, 3) ∧ decode cX4_tell 35 = .ok (.iconst 1, 1) ∧ decode cX4_tell 36 = .ok (.iadd, 1) ∧ decode cX4_tell 37 = .ok (.putfield 21, 3) := by decide +kernel
theorem dX4_tell_20 : decode cX4_tell 20 = .ok (.aload_n 0, 1) := dX4_tell_all1.1
theorem dX4_tell_21 : decode cX4_tell 21 = .ok (.getfield 18, 3) := dX4_tell_all1.2.1
theorem dX4_tell_24 : decode cX4_tell 24 = .ok (.aload_n 0, 1) := dX4_tell_all1.2.2.1
theorem dX4_tell_25 : decode cX4_tell 25 = .ok (.getfield 21, 3) := dX4_tell_all1.2.2.2.1
theorem dX4_tell_28 : decode cX4_tell 28 = .ok (.iload_n 3, 1) := dX4_tell_all1.2.2.2.2.1
theorem dX4_tell_29 : decode cX4_tell 29 = .ok (.iastore, 1) := dX4_tell_all1.2.2.2.2.2.1
theorem dX4_tell_30 : decode cX4_tell 30 = .ok (.aload_n 0, 1) := dX4_tell_all1.2.2.2.2.2.2.1
theorem dX4_tell_31 : decode cX4_tell 31 = .ok (.dup, 1) := dX4_tell_all1.2.2.2.2.2.2.2.1
theorem dX4_tell_32 : decode cX4_tell 32 = .ok (.getfield 21, 3) := dX4_tell_all1.2.2.2.2.2.2.2.2.1
theorem dX4_tell_35 : decode cX4_tell 35 = .ok (.iconst 1, 1) := dX4_tell_all1.2.2.2.2.2.2.2.2.2.1
theorem dX4_tell_36 : decode cX4_tell 36 = .ok (.iadd, 1) := dX4_tell_all1.2.2.2.2.2.2.2.2.2.2.1
theorem dX4_tell_37 : decode cX4_tell 37 = .ok (.putfield 21, 3) := dX4_tell_all1.2.2.2.2.2.2.2.2.2.2.2
theorem dX4_tell_all2 : decode cX4_tell 40 = .ok (.aload_n 0, 1) ∧ decode cX4_tell 41 = .ok (.getfield 21, 3) ∧ decode cX4_tell 44 = .ok (.ireturn, 1) := by decide +kernel
theorem dX4_tell_40 : decode cX4_tell 40 = .ok (.aload_n 0, 1) := dX4_tell_all2.1
theorem dX4_tell_41 : decode cX4_tell 41 = .ok (.getfield 21, 3) := dX4_tell_all2.2.1
theorem dX4_tell_44 : decode cX4_tell 44 = .ok (.ireturn, 1) := dX4_tell_all2.2.2
theorem dX6_tell_all0 : decode cX6_tell 0 = .ok (.aload_n 0, 1) ∧ decode cX6_tell 1 = .ok (.getfield 9, 3) ∧ decode cX6_tell 4 = .ok (.aload_n 0, 1) ∧ decode cX6_tell 5 = .ok (.getfield 24, 3) ∧ decode cX6_tell 8 = .ok (.iload_n 1, 1) ∧ decode cX6_tell 9 = .ok (.iastore, 1) ∧ decode cX6_tell 10 = .ok (.aload_n 0, 1) ∧ decode cX6_tell 11 = .ok (.getfield 15, 3) ∧ decode cX6_tell 14 = .ok (.aload_n 0, 1) ∧ decode cX6_tell 15 = .ok (.getfield 24, 3) ∧ decode cX6_tell 18 = .ok (.iload_n 2, 1) ∧ decode cX6_tell 19 = .ok (.iastore, 1) := by decide +kernel
theorem dX6_tell_0 : decode cX6_tell 0 = .ok (.aload_n 0, 1) := dX6_tell_all0.1
theorem dX6_tell_1 : decode cX6_tell 1 = .ok (.getfield 9, 3) := dX6_tell_all0.2.1
theorem dX6_tell_4 : decode cX6_tell 4 = .ok (.aload_n 0, 1) := dX6_tell_all0.2.2.1
theorem dX6_tell_5 : decode cX6_tell 5 = .ok (.getfield 24, 3) := dX6_tell_all0.2.2.2.1
theorem dX6_tell_8 : decode cX6_tell 8 = .ok (.iload_n 1, 1) := dX6_tell_all0.2.2.2.2.1
theorem dX6_tell_9 : decode cX6_tell 9 = .ok (.iastore, 1) := dX6_tell_all0.2.2.2.2.2.1
theorem dX6_tell_10 : decode cX6_tell 10 = .ok (.aload_n 0, 1) := dX6_tell_all0.2.2.2.2.2.2.1
theorem dX6_tell_11 : decode cX6_tell 11 = .ok (.getfield 15, 3) := dX6_tell_all0.2.2.2.2.2.2.2.1
theorem dX6_tell_14 : decode cX6_tell 14 = .ok (.aload_n 0, 1) := dX6_tell_all0.2.2.2.2.2.2.2.2.1
theorem dX6_tell_15 : decode cX6_tell 15 = .ok (.getfield 24, 3) := dX6_tell_all0.2.2.2.2.2.2.2.2.2.1
theorem dX6_tell_18 : decode cX6_tell 18 = .ok (.iload_n 2, 1) := dX6_tell_all0.2.2.2.2.2.2.2.2.2.2.1
theorem dX6_tell_19 : decode cX6_tell 19 = .ok (.iastore, 1) := dX6_tell_all0.2.2.2.2.2.2.2.2.2.2.2
theorem dX6_tell_all1 : decode cX6_tell 20 = .ok (.aload_n 0, 1) ∧ decode cX6_tell 21 = .ok (.getfield 18, 3) ∧ decode cX6_tell 24 = .ok (.aload_n 0, 1) ∧ decode cX6_tell 25 = .ok (.getfield 24, 3) ∧ decode cX6_tell 28 = .ok (.iload_n 3, 1) ∧ decode cX6_tell 29 = .ok (.iastore, 1) ∧ decode cX6_tell 30 = .ok (.aload_n 0, 1) ∧ decode cX6_tell 31 = .ok (.getfield 21, 3) ∧ decode cX6_tell 34 = .ok (.aload_n 0, 1) ∧ decode cX6_tell 35 = .ok (.getfield 24, 3) ∧ decode cX6_tell 38 = .ok (.iload 4, 2) ∧ decode cX6_tell 40 = .ok (.iastore, 1) := by decide +kernel
theorem dX6_tell_20 : decode cX6_tell 20 = .ok (.aload_n 0, 1) := dX6_tell_all1.1
theorem dX6_tell_21 : decode cX6_tell 21 = .ok (.getfield 18, 3) := dX6_tell_all1.2.1
theorem dX6_tell_24 : decode cX6_tell 24 = .ok (.aload_n 0, 1) := dX6_tell_all1.2.2.1
theorem dX6_tell_25 : decode cX6_tell 25 = .ok (.getfield 24, 3) := dX6_tell_all1.2.2.2.1
theorem dX6_tell_28 : decode cX6_tell 28 = .ok (.iload_n 3, 1) := dX6_tell_all1.2.2.2.2.1
theorem dX6_tell_29 : decode cX6_tell 29 = .ok (.iastore, 1) := dX6_tell_all1.2.2.2.2.2.1
theorem dX6_tell_30 : decode cX6_tell 30 = .ok (.aload_n 0, 1) := dX6_tell_all1.2.2.2.2.2.2.1
theorem dX6_tell_31 : decode cX6_tell 31 = .ok (.getfield 21, 3) := dX6_tell_all1.2.2.2.2.2.2.2.1
theorem dX6_tell_34 : decode cX6_tell 34 = .ok (.aload_n 0, 1) := dX6_tell_all1.2.2.2.2.2.2.2.2.1
theorem dX6_tell_35 : decode cX6_tell 35 = .ok (.getfield 24, 3) := dX6_tell_all1.2.2.2.2.2.2.2.2.2.1
theorem dX6_tell_38 : decode cX6_tell 38 = .ok (.iload 4, 2) := dX6_tell_all1.2.2.2.2.2.2.2.2.2.2.1
theorem dX6_tell_40 : decode cX6_tell 40 = .ok (.iastore, 1) := dX6_tell_all1.2.2.2.2.2.2.2.2.2.2.2
theorem dX6_tell_all2 : decode cX6_tell 41 = .ok (.aload_n 0, 1) ∧ decode cX6_tell 42 = .ok (.dup, 1) ∧ decode cX6_tell 43 = .ok (.getfield 24, 3) ∧ decode cX6_tell 46 = .ok (.iconst 1, 1) ∧ decode cX6_tell 47 = .ok (.iadd, 1) ∧ decode cX6_tell 48 = .ok (.putfield 24, 3) ∧ decode cX6_tell 51 = .ok (.aload_n 0, 1) ∧ decode cX6_tell 52 = .ok (.getfield 24, 3) ∧ decode cX6_tell 55 = .ok (.ireturn, 1) := by decide +kernel
theorem dX6_tell_41 : decode cX6_tell 41 = .ok (.aload_n 0, 1) := dX6_tell_all2.1
theorem dX6_tell_42 : decode cX6_tell 42 = .ok (.dup, 1) := dX6_tell_all2.2.1
theorem dX6_tell_43 : decode cX6_tell 43 = .ok (.getfield 24, 3) := dX6_tell_all2.2.2.1
theorem dX6_tell_46 : decode cX6_tell 46 = .ok (.iconst 1, 1) := dX6_tell_all2.2.2.2.1
theorem dX6_tell_47 : decode cX6_tell 47 = .ok (.iadd, 1) := dX6_tell_all2.2.2.2.2.1
theorem dX6_tell_48 : decode cX6_tell 48 = .ok (.putfield 24, 3) := dX6_tell_all2.2.2.2.2.2.1
theorem dX6_tell_51 : decode cX6_tell 51 = .ok (.aload_n 0, 1) := dX6_tell_all2.2.2.2.2.2.2.1
theorem dX6_tell_52 : decode cX6_tell 52 = .ok (.getfield 24, 3) := dX6_tell_all2.2.2.2.2.2.2.2.1
theorem dX6_tell_55 : decode cX6_tell 55 = .ok (.ireturn, 1) := dX6_tell_all2.2.2.2.2.2.2.2.2
theorem dX8_tell_all0 : decode cX8_tell 0 = .ok (.aload_n 0, 1) ∧ decode cX8_tell 1 = .ok (.getfield 9, 3) ∧ decode cX8_tell 4 = .ok (.aload_n 0, 1) ∧ decode cX8_tell 5 = .ok (.getfield 27, 3) ∧ decode cX8_tell 8 = .ok (.iload_n 1, 1) ∧ decode cX8_tell 9 = .ok (.iastore, 1) ∧ decode cX8_tell 10 = .ok (.aload_n 0, 1) ∧ decode cX8_tell 11 = .ok (.getfield 15, 3) ∧ decode cX8_tell 14 = .ok (.aload_n 0, 1) ∧ decode cX8_tell 15 = .ok (.getfield 27, 3) ∧ decode cX8_tell 18 = .ok (.iload_n 2, 1) ∧ decode cX8_tell 19 = .ok (.iastore, 1) := by decide +kernel
theorem dX8_tell_0 : decode cX8_tell 0 = .ok (.aload_n 0, 1) := dX8_tell_all0.1
theorem dX8_tell_1 : decode cX8_tell 1 = .ok (.getfield 9, 3) := dX8_tell_all0.2.1
theorem dX8_tell_4 : decode cX8_tell 4 = .ok (.aload_n 0, 1) := dX8_tell_all0.2.2.1
theorem dX8_tell_5 : decode cX8_tell 5 = .ok (.getfield 27, 3) := dX8_tell_all0.2.2.2.1
theorem dX8_tell_8 : decode cX8_tell 8 = .ok (.iload_n 1, 1) := dX8_tell_all0.2.2.2.2.1
theorem dX8_tell_9 : decode cX8_tell 9 = .ok (.iastore, 1) := dX8_tell_all0.2.2.2.2.2.1
theorem dX8_tell_10 : decode cX8_tell 10 = .ok (.aload_n 0, 1) := dX8_tell_all0.2.2.2.2.2.2.1
theorem dX8_tell_11 : decode cX8_tell 11 = .ok (.getfield 15, 3) := dX8_tell_all0.2.2.2.2.2.2.2.1
theorem dX8_tell_14 : decode cX8_tell 14 = .ok (.aload_n 0, 1) := dX8_tell_all0.2.2.2.2.2.2.2.2.1
theorem dX8_tell_15 : decode cX8_tell 15 = .ok (.getfield 27, 3) := dX8_tell_all0.2.2.2.2.2.2.2.2.2.1
theorem dX8_tell_18 : decode cX8_tell 18 = .ok (.iload_n 2, 1) := dX8_tell_all0.2.2.2.2.2.2.2.2.2.2.1
theorem dX8_tell_19 : decode cX8_tell 19 = .ok (.iastore, 1) := dX8_tell_all0.2.2.2.2.2.2.2.2.2.2.2
theorem dX8_tell_all1 : decode cX8_tell 20 = .ok (.aload_n 0, 1) ∧ decode cX8_tell 21 = .ok (.getfield 18, 3) ∧ decode cX8_tell 24 = .ok (.aload_n 0, 1) ∧ decode cX8_tell 25 = .ok (.getfield 27, 3) ∧ decode cX8_tell 28 = .ok (.iload_n 3, 1) ∧ decode cX8_tell 29 = .ok (.iastore, 1) ∧ decode cX8_tell 30 = .ok (.aload_n 0, 1) ∧ decode cX8_tell 31 = .ok (.getfield 21, 3) ∧ decode cX8_tell 34 = .ok (.aload_n 0, 1) ∧ decode cX8_tell 35 = .ok (.getfield 27, 3) ∧ decode cX8_tell 38 = .ok (.iload 4, 2) ∧ decode cX8_tell 40 = .ok (.iastore, 1) := by decide +kernel
theorem dX8_tell_20 : decode cX8_tell 20 = .ok (.aload_n 0, 1) := dX8_tell_all1.1
theorem dX8_tell_21 : decode cX8_tell 21 = .ok (.getfield 18, 3) := dX8_tell_all1.2.1
theorem dX8_tell_24 : decode cX8_tell 24 = .ok (.aload_n 0, 1) := dX8_tell_all1.2.2.1
theorem dX8_tell_25 : decode cX8_tell 25 = .ok (.getfield 27, 3) := dX8_tell_all1.2.2.2.1
theorem dX8_tell_28 : decode cX8_tell 28 = .ok (.iload_n 3, 1) := dX8_tell_all1.2.2.2.2.1
theorem dX8_tell_29 : decode cX8_tell 29 = .ok (.iastore, 1) := dX8_tell_all1.2.2.2.2.2.1
theorem dX8_tell_30 : decode cX8_tell 30 = .ok (.aload_n 0, 1) := dX8_tell_all1.2.2.2.2.2.2.1
theorem dX8_tell_31 : decode cX8_tell 31 = .ok (.getfield 21, 3) := dX8_tell_all1.2.2.2.2.2.2.2.1
theorem dX8_tell_34 : decode cX8_tell 34 = .ok (.aload_n 0, 1) := dX8_tell_all1.2.2.2.2.2.2.2.2.1
theorem dX8_tell_35 : decode cX8_tell 35 = .ok (.getfield 27, 3) := dX8_tell_all1.2.2.2.2.2.2.2.2.2.1
theorem dX8_tell_38 : decode cX8_tell 38 = .ok (.iload 4, 2) := dX8_tell_all1.2.2.2.2.2.2.2.2.2.2.1
theorem dX8_tell_40 : decode cX8_tell 40 = .ok (.iastore, 1) := dX8_tell_all1.2.2.2.2.2.2.2.2.2.2.2
theorem dX8_tell_all2 : decode cX8_tell 41 = .ok (.aload_n 0, 1) ∧ decode cX8_tell 42 = .ok (.dup, 1) ∧ decode cX8_tell 43 = .ok (.getfield 27, 3) ∧ decode cX8_tell 46 = .ok (.iconst 1, 1) ∧ decode cX8_tell 47 = .ok (.iadd, 1) ∧ decode cX8_tell 48 = .ok (.putfield 27, 3) ∧ decode cX8_tell 51 = .ok (.aload_n 0, 1) ∧ decode cX8_tell 52 = .ok (.getfield 27, 3) ∧ decode cX8_tell 55 = .ok (.iconst 1, 1) ∧ decode cX8_tell 56 = .ok (.isub, 1) ∧ decode cX8_tell 57 = .ok (.ireturn, 1) := by decide +kernel
theorem dX8_tell_41 : decode cX8_tell 41 = .ok (.aload_n 0, 1) := dX8_tell_all2.1
theorem dX8_tell_42 : decode cX8_tell 42 = .ok (.dup, 1) := dX8_tell_all2.2.1
theorem dX8_tell_43 : decode cX8_tell 43 = .ok (.getfield 27, 3) := dX8_tell_all2.2.2.1
theorem dX8_tell_46 : decode cX8_tell 46 = .ok (.iconst 1, 1) := dX8_tell_all2.2.2.2.1
theorem dX8_tell_47 : decode cX8_tell 47 = .ok (.iadd, 1) := dX8_tell_all2.2.2.2.2.1
theorem dX8_tell_48 : decode cX8_tell 48 = .ok (.putfield 27, 3) := dX8_tell_all2.2.2.2.2.2.1
theorem dX8_tell_51 : decode cX8_tell 51 = .ok (.aload_n 0, 1) := dX8_tell_all2.2.2.2.2.2.2.1
theorem dX8_tell_52 : decode cX8_tell 52 = .ok (.getfield 27, 3) := dX8_tell_all2.2.2.2.2.2.2.2.1
theorem dX8_tell_55 : decode cX8_tell 55 = .ok (.iconst 1, 1) := dX8_tell_all2.2.2.2.2.2.2.2.2.1
theorem dX8_tell_56 : decode cX8_tell 56 = .ok (.isub, 1) := dX8_tell_all2.2.2.2.2.2.2.2.2.2.1
theorem dX8_tell_57 : decode cX8_tell 57 = .ok (.ireturn, 1) := dX8_tell_all2.2.2.2.2.2.2.2.2.2.2
theorem ggX10_hold_X10_isPair : GoodIn wsX10_hold wsX10_isPair := goodIn_s (fun _ h => wm_t (wm_r (wm_l (wm_r h)))) Gd_X10_isPair
theorem gX10_hold_X10_isPair : GoodIn wsX10_hold (va_wsS RX10 132 yX10_isPair wsX10_isPair) := goodIn_S (own := RX10) (idx := 132) (y := yX10_isPair) (wm_t (wm_l (wm_i 4 rfl))) (wm_t (wm_l (wm_i 5 rfl))) (wm_t (wm_l (wm_i 6 rfl))) ggX10_hold_X10_isPair
theorem ggX10_hold_X10_isFrom : GoodIn wsX10_hold wsX10_isFrom := goodIn_s (fun _ h => wm_t (wm_r (wm_r (wm_l (wm_l h))))) Gd_X10_isFrom
theorem gX10_hold_X10_isFrom : GoodIn wsX10_hold (va_wsS RX10 135 yX10_isFrom wsX10_isFrom) := goodIn_S (own := RX10) (idx := 135) (y := yX10_isFrom) (wm_t (wm_l (wm_i 7 rfl))) (wm_t (wm_l (wm_i 8 rfl))) (wm_t (wm_l (wm_i 6 rfl))) ggX10_hold_X10_isFrom
theorem ggX10_hold_X10_isDay : GoodIn wsX10_hold wsX10_isDay := goodIn_s (fun _ h => wm_t (wm_r (wm_r (wm_l (wm_r h))))) Gd_X10_isDay
theorem gX10_hold_X10_isDay : GoodIn wsX10_hold (va_wsS RX10 138 yX10_isDay wsX10_isDay) := goodIn_S (own := RX10) (idx := 138) (y := yX10_isDay) (wm_t (wm_l (wm_i 9 rfl))) (wm_t (wm_l (wm_i 10 rfl))) (wm_t (wm_l (wm_i 6 rfl))) ggX10_hold_X10_isDay
theorem ggX10_hold_X3_tell : GoodIn wsX10_hold wsX3_tell := goodIn_s (fun _ h => wm_t (wm_r (wm_r (wm_r h)))) Gd_X3_tell
theorem gX10_hold_X3_tell : GoodIn wsX10_hold (wsV RX10 146 RX3 yX3_tell wsX3_tell) := goodIn_V (own := RX10) (idx := 146) (C := RX3) (y := yX3_tell) (wm_t (wm_l (wm_i 11 rfl))) (wm_t (wm_l (wm_i 12 rfl))) (wm_t (wm_l (wm_i 13 rfl))) (wm_t (wm_l (wm_i 14 rfl))) ggX10_hold_X3_tell
theorem dX10_hold_all0 : decode cX10_hold 0 = .ok (.iload_n 1, 1) ∧ decode cX10_hold 1 = .ok (.iload_n 2, 1) ∧ decode cX10_hold 2 = .ok (.invokestatic 132, 3) ∧ decode cX10_hold 5 = .ok (.ifCond .eq 21, 3) ∧ decode cX10_hold 8 = .ok (.iload_n 3, 1) ∧ decode cX10_hold 9 = .ok (.iconst 0, 1) ∧ decode cX10_hold 10 = .ok (.bipush 100, 2) ∧ decode cX10_hold 12 = .ok (.invokestatic 135, 3) ∧ decode cX10_hold 15 = .ok (.ifCond .eq 11, 3) ∧ decode cX10_hold 18 = .ok (.iload 4, 2) ∧ decode cX10_hold 20 = .ok (.invokestatic 138, 3) ∧ decode cX10_hold 23 = .ok (.ifCond .ne 6, 3) := by decide +kernel
theorem dX10_hold_0 : decode cX10_hold 0 = .ok (.iload_n 1, 1) := dX10_hold_all0.1
theorem dX10_hold_1 : decode cX10_hold 1 = .ok (.iload_n 2, 1) := dX10_hold_all0.2.1
theorem dX10_hold_2 : decode cX10_hold 2 = .ok (.invokestatic 132, 3) := dX10_hold_all0.2.2.1
theorem dX10_hold_5 : decode cX10_hold 5 = .ok (.ifCond .eq 21, 3) := dX10_hold_all0.2.2.2.1
theorem dX10_hold_8 : decode cX10_hold 8 = .ok (.iload_n 3, 1) := dX10_hold_all0.2.2.2.2.1
theorem dX10_hold_9 : decode cX10_hold 9 = .ok (.iconst 0, 1) := dX10_hold_all0.2.2.2.2.2.1
theorem dX10_hold_10 : decode cX10_hold 10 = .ok (.bipush 100, 2) := dX10_hold_all0.2.2.2.2.2.2.1
theorem dX10_hold_12 : decode cX10_hold 12 = .ok (.invokestatic 135, 3) := dX10_hold_all0.2.2.2.2.2.2.2.1
theorem dX10_hold_15 : decode cX10_hold 15 = .ok (.ifCond .eq 11, 3) := dX10_hold_all0.2.2.2.2.2.2.2.2.1
theorem dX10_hold_18 : decode cX10_hold 18 = .ok (.iload 4, 2) := dX10_hold_all0.2.2.2.2.2.2.2.2.2.1
theorem dX10_hold_20 : decode cX10_hold 20 = .ok (.invokestatic 138, 3) := dX10_hold_all0.2.2.2.2.2.2.2.2.2.2.1
theorem dX10_hold_23 : decode cX10_hold 23 = .ok (.ifCond .ne 6, 3) := dX10_hold_all0.2.2.2.2.2.2.2.2.2.2.2
theorem dX10_hold_all1 : decode cX10_hold 26 = .ok (.ldc 89, 2) ∧ decode cX10_hold 28 = .ok (.ireturn, 1) ∧ decode cX10_hold 29 = .ok (.aload_n 0, 1) ∧ decode cX10_hold 30 = .ok (.getfield 19, 3) ∧ decode cX10_hold 33 = .ok (.getfield 141, 3) ∧ decode cX10_hold 36 = .ok (.bipush 40, 2) ∧ decode cX10_hold 38 = .ok (.if_icmp .lt 6, 3) ∧ decode cX10_hold 41 = .ok (.ldc 145, 2) ∧ decode cX10_hold 43 = .ok (.ireturn, 1) ∧ decode cX10_hold 44 = .ok (.aload_n 0, 1) ∧ decode cX10_hold 45 = .ok (.getfield 19, 3) ∧ decode cX10_hold 48 = .ok (.iload_n 1, 1) := by decide +kernel
theorem dX10_hold_26 : decode cX10_hold 26 = .ok (.ldc 89, 2) := dX10_hold_all1.1
theorem dX10_hold_28 : decode cX10_hold 28 = .ok (.ireturn, 1) := dX10_hold_all1.2.1
theorem dX10_hold_29 : decode cX10_hold 29 = .ok (.aload_n 0, 1) := dX10_hold_all1.2.2.1
theorem dX10_hold_30 : decode cX10_hold 30 = .ok (.getfield 19, 3) := dX10_hold_all1.2.2.2.1
theorem dX10_hold_33 : decode cX10_hold 33 = .ok (.getfield 141, 3) := dX10_hold_all1.2.2.2.2.1
theorem dX10_hold_36 : decode cX10_hold 36 = .ok (.bipush 40, 2) := dX10_hold_all1.2.2.2.2.2.1
theorem dX10_hold_38 : decode cX10_hold 38 = .ok (.if_icmp .lt 6, 3) := dX10_hold_all1.2.2.2.2.2.2.1
theorem dX10_hold_41 : decode cX10_hold 41 = .ok (.ldc 145, 2) := dX10_hold_all1.2.2.2.2.2.2.2.1
theorem dX10_hold_43 : decode cX10_hold 43 = .ok (.ireturn, 1) := dX10_hold_all1.2.2.2.2.2.2.2.2.1
theorem dX10_hold_44 : decode cX10_hold 44 = .ok (.aload_n 0, 1) := dX10_hold_all1.2.2.2.2.2.2.2.2.2.1
theorem dX10_hold_45 : decode cX10_hold 45 = .ok (.getfield 19, 3) := dX10_hold_all1.2.2.2.2.2.2.2.2.2.2.1
theorem dX10_hold_48 : decode cX10_hold 48 = .ok (.iload_n 1, 1) := dX10_hold_all1.2.2.2.2.2.2.2.2.2.2.2
theorem dX10_hold_all2 : decode cX10_hold 49 = .ok (.iload_n 2, 1) ∧ decode cX10_hold 50 = .ok (.iload_n 3, 1) ∧ decode cX10_hold 51 = .ok (.iload 4, 2) ∧ decode cX10_hold 53 = .ok (.invokevirtual 146, 3) ∧ decode cX10_hold 56 = .ok (.ireturn, 1) := by decide +kernel
theorem dX10_hold_49 : decode cX10_hold 49 = .ok (.iload_n 2, 1) := dX10_hold_all2.1
theorem dX10_hold_50 : decode cX10_hold 50 = .ok (.iload_n 3, 1) := dX10_hold_all2.2.1
theorem dX10_hold_51 : decode cX10_hold 51 = .ok (.iload 4, 2) := dX10_hold_all2.2.2.1
theorem dX10_hold_53 : decode cX10_hold 53 = .ok (.invokevirtual 146, 3) := dX10_hold_all2.2.2.2.1
theorem dX10_hold_56 : decode cX10_hold 56 = .ok (.ireturn, 1) := dX10_hold_all2.2.2.2.2
theorem ggX10_crate_X10_isOwner : GoodIn wsX10_crate wsX10_isOwner := goodIn_s (fun _ h => wm_t (wm_r (wm_l (wm_r h)))) Gd_X10_isOwner
theorem gX10_crate_X10_isOwner : GoodIn wsX10_crate (va_wsS RX10 163 yX10_isOwner wsX10_isOwner) := goodIn_S (own := RX10) (idx := 163) (y := yX10_isOwner) (wm_t (wm_l (wm_i 5 rfl))) (wm_t (wm_l (wm_i 6 rfl))) (wm_t (wm_l (wm_i 7 rfl))) ggX10_crate_X10_isOwner
theorem ggX10_crate_X10_isFrom : GoodIn wsX10_crate wsX10_isFrom := goodIn_s (fun _ h => wm_t (wm_r (wm_r (wm_l h)))) Gd_X10_isFrom
theorem gX10_crate_X10_isFrom : GoodIn wsX10_crate (va_wsS RX10 135 yX10_isFrom wsX10_isFrom) := goodIn_S (own := RX10) (idx := 135) (y := yX10_isFrom) (wm_t (wm_l (wm_i 8 rfl))) (wm_t (wm_l (wm_i 9 rfl))) (wm_t (wm_l (wm_i 7 rfl))) ggX10_crate_X10_isFrom
theorem ggX10_crate_X1_tell : GoodIn wsX10_crate wsX1_tell := goodIn_s (fun _ h => wm_t (wm_r (wm_r (wm_r h)))) Gd_X1_tell
theorem gX10_crate_X1_tell : GoodIn wsX10_crate (wsV RX10 178 RX1 yX1_tell wsX1_tell) := goodIn_V (own := RX10) (idx := 178) (C := RX1) (y := yX1_tell) (wm_t (wm_l (wm_i 10 rfl))) (wm_t (wm_l (wm_i 11 rfl))) (wm_t (wm_l (wm_i 12 rfl))) (wm_t (wm_l (wm_i 13 rfl))) ggX10_crate_X1_tell
theorem dX10_crate_all0 : decode cX10_crate 0 = .ok (.iload_n 1, 1) ∧ decode cX10_crate 1 = .ok (.invokestatic 163, 3) ∧ decode cX10_crate 4 = .ok (.ifCond .eq 13, 3) ∧ decode cX10_crate 7 = .ok (.iload_n 2, 1) ∧ decode cX10_crate 8 = .ok (.iconst 1, 1) ∧ decode cX10_crate 9 = .ok (.ldc 176, 2) ∧ decode cX10_crate 11 = .ok (.invokestatic 135, 3) ∧ decode cX10_crate 14 = .ok (.ifCond .ne 6, 3) ∧ decode cX10_crate 17 = .ok (.ldc 89, 2) ∧ decode cX10_crate 19 = .ok (.ireturn, 1) ∧ decode cX10_crate 20 = .ok (.aload_n 0, 1) ∧ decode cX10_crate 21 = .ok (.getfield 26, 3) := by decide +kernel
theorem dX10_crate_0 : decode cX10_crate 0 = .ok (.iload_n 1, 1) := dX10_crate_all0.1
theorem dX10_crate_1 : decode cX10_crate 1 = .ok (.invokestatic 163, 3) := dX10_crate_all0.2.1
theorem dX10_crate_4 : decode cX10_crate 4 = .ok (.ifCond .eq 13, 3) := dX10_crate_all0.2.2.1
theorem dX10_crate_7 : decode cX10_crate 7 = .ok (.iload_n 2, 1) := dX10_crate_all0.2.2.2.1
theorem dX10_crate_8 : decode cX10_crate 8 = .ok (.iconst 1, 1) := dX10_crate_all0.2.2.2.2.1
theorem dX10_crate_9 : decode cX10_crate 9 = .ok (.ldc 176, 2) := dX10_crate_all0.2.2.2.2.2.1
theorem dX10_crate_11 : decode cX10_crate 11 = .ok (.invokestatic 135, 3) := dX10_crate_all0.2.2.2.2.2.2.1
theorem dX10_crate_14 : decode cX10_crate 14 = .ok (.ifCond .ne 6, 3) := dX10_crate_all0.2.2.2.2.2.2.2.1
theorem dX10_crate_17 : decode cX10_crate 17 = .ok (.ldc 89, 2) := dX10_crate_all0.2.2.2.2.2.2.2.2.1
theorem dX10_crate_19 : decode cX10_crate 19 = .ok (.ireturn, 1) := dX10_crate_all0.2.2.2.2.2.2.2.2.2.1
theorem dX10_crate_20 : decode cX10_crate 20 = .ok (.aload_n 0, 1) := dX10_crate_all0.2.2.2.2.2.2.2.2.2.2.1
theorem dX10_crate_21 : decode cX10_crate 21 = .ok (.getfield 26, 3) := dX10_crate_all0.2.2.2.2.2.2.2.2.2.2.2
theorem dX10_crate_all1 : decode cX10_crate 24 = .ok (.getfield 177, 3) ∧ decode cX10_crate 27 = .ok (.bipush 12, 2) ∧ decode cX10_crate 29 = .ok (.if_icmp .lt 6, 3) ∧ decode cX10_crate 32 = .ok (.ldc 145, 2) ∧ decode cX10_crate 34 = .ok (.ireturn, 1) ∧ decode cX10_crate 35 = .ok (.aload_n 0, 1) ∧ decode cX10_crate 36 = .ok (.getfield 26, 3) ∧ decode cX10_crate 39 = .ok (.iload_n 1, 1) ∧ decode cX10_crate 40 = .ok (.iload_n 2, 1) ∧ decode cX10_crate 41 = .ok (.invokevirtual 178, 3) ∧ decode cX10_crate 44 = .ok (.ireturn, 1) := by decide +kernel
theorem dX10_crate_24 : decode cX10_crate 24 = .ok (.getfield 177, 3) := dX10_crate_all1.1
theorem dX10_crate_27 : decode cX10_crate 27 = .ok (.bipush 12, 2) := dX10_crate_all1.2.1
theorem dX10_crate_29 : decode cX10_crate 29 = .ok (.if_icmp .lt 6, 3) := dX10_crate_all1.2.2.1
theorem dX10_crate_32 : decode cX10_crate 32 = .ok (.ldc 145, 2) := dX10_crate_all1.2.2.2.1
theorem dX10_crate_34 : decode cX10_crate 34 = .ok (.ireturn, 1) := dX10_crate_all1.2.2.2.2.1
theorem dX10_crate_35 : decode cX10_crate 35 = .ok (.aload_n 0, 1) := dX10_crate_all1.2.2.2.2.2.1
theorem dX10_crate_36 : decode cX10_crate 36 = .ok (.getfield 26, 3) := dX10_crate_all1.2.2.2.2.2.2.1
theorem dX10_crate_39 : decode cX10_crate 39 = .ok (.iload_n 1, 1) := dX10_crate_all1.2.2.2.2.2.2.2.1
theorem dX10_crate_40 : decode cX10_crate 40 = .ok (.iload_n 2, 1) := dX10_crate_all1.2.2.2.2.2.2.2.2.1
theorem dX10_crate_41 : decode cX10_crate 41 = .ok (.invokevirtual 178, 3) := dX10_crate_all1.2.2.2.2.2.2.2.2.2.1
theorem dX10_crate_44 : decode cX10_crate 44 = .ok (.ireturn, 1) := dX10_crate_all1.2.2.2.2.2.2.2.2.2.2
theorem ggX10_pledge_X10_isCrate : GoodIn wsX10_pledge wsX10_isCrate := goodIn_s (fun _ h => wm_t (wm_r (wm_l (wm_r (wm_r h))))) Gd_X10_isCrate
theorem gX10_pledge_X10_isCrate : GoodIn wsX10_pledge (wsV RX10 180 RX10 yX10_isCrate wsX10_isCrate) := goodIn_V (own := RX10) (idx := 180) (C := RX10) (y := yX10_isCrate) (wm_t (wm_l (wm_i 5 rfl))) (wm_t (wm_l (wm_i 6 rfl))) (wm_t (wm_l (wm_i 7 rfl))) (wm_t (wm_l (wm_i 8 rfl))) ggX10_pledge_X10_isCrate
theorem ggX10_pledge_X10_isPerson : GoodIn wsX10_pledge wsX10_isPerson := goodIn_s (fun _ h => wm_t (wm_r (wm_r (wm_l (wm_l h))))) Gd_X10_isPerson
theorem gX10_pledge_X10_isPerson : GoodIn wsX10_pledge (va_wsS RX10 160 yX10_isPerson wsX10_isPerson) := goodIn_S (own := RX10) (idx := 160) (y := yX10_isPerson) (wm_t (wm_l (wm_i 9 rfl))) (wm_t (wm_l (wm_i 10 rfl))) (wm_t (wm_l (wm_i 8 rfl))) ggX10_pledge_X10_isPerson
theorem ggX10_pledge_X10_isFrom : GoodIn wsX10_pledge wsX10_isFrom := goodIn_s (fun _ h => wm_t (wm_r (wm_r (wm_l (wm_r h))))) Gd_X10_isFrom
theorem gX10_pledge_X10_isFrom : GoodIn wsX10_pledge (va_wsS RX10 135 yX10_isFrom wsX10_isFrom) := goodIn_S (own := RX10) (idx := 135) (y := yX10_isFrom) (wm_t (wm_l (wm_i 11 rfl))) (wm_t (wm_l (wm_i 12 rfl))) (wm_t (wm_l (wm_i 8 rfl))) ggX10_pledge_X10_isFrom
theorem ggX10_pledge_X10_areDays : GoodIn wsX10_pledge wsX10_areDays := goodIn_s (fun _ h => wm_t (wm_r (wm_r (wm_r (wm_l h))))) Gd_X10_areDays
theorem gX10_pledge_X10_areDays : GoodIn wsX10_pledge (va_wsS RX10 183 yX10_areDays wsX10_areDays) := goodIn_S (own := RX10) (idx := 183) (y := yX10_areDays) (wm_t (wm_l (wm_i 13 rfl))) (wm_t (wm_l (wm_i 14 rfl))) (wm_t (wm_l (wm_i 8 rfl))) ggX10_pledge_X10_areDays
theorem ggX10_pledge_X8_tell : GoodIn wsX10_pledge wsX8_tell := goodIn_s (fun _ h => wm_t (wm_r (wm_r (wm_r (wm_r h))))) Gd_X8_tell
theorem gX10_pledge_X8_tell : GoodIn wsX10_pledge (wsV RX10 200 RX8 yX8_tell wsX8_tell) := goodIn_V (own := RX10) (idx := 200) (C := RX8) (y := yX8_tell) (wm_t (wm_l (wm_i 15 rfl))) (wm_t (wm_l (wm_i 16 rfl))) (wm_t (wm_l (wm_i 17 rfl))) (wm_t (wm_l (wm_i 18 rfl))) ggX10_pledge_X8_tell
theorem dX10_pledge_all0 : decode cX10_pledge 0 = .ok (.aload_n 0, 1) ∧ decode cX10_pledge 1 = .ok (.iload_n 1, 1) ∧ decode cX10_pledge 2 = .ok (.invokevirtual 180, 3) ∧ decode cX10_pledge 5 = .ok (.ifCond .eq 30, 3) ∧ decode cX10_pledge 8 = .ok (.iload_n 2, 1) ∧ decode cX10_pledge 9 = .ok (.invokestatic 160, 3) ∧ decode cX10_pledge 12 = .ok (.ifCond .eq 23, 3) ∧ decode cX10_pledge 15 = .ok (.iload_n 3, 1) ∧ decode cX10_pledge 16 = .ok (.iconst 1, 1) ∧ decode cX10_pledge 17 = .ok (.ldc 176, 2) ∧ decode cX10_pledge 19 = .ok (.invokestatic 135, 3) ∧ decode cX10_pledge 22 = .ok (.ifCond .eq 13, 3) := by decide +kernel
theorem dX10_pledge_0 : decode cX10_pledge 0 = .ok (.aload_n 0, 1) := dX10_pledge_all0.1
theorem dX10_pledge_1 : decode cX10_pledge 1 = .ok (.iload_n 1, 1) := dX10_pledge_all0.2.1
theorem dX10_pledge_2 : decode cX10_pledge 2 = .ok (.invokevirtual 180, 3) := dX10_pledge_all0.2.2.1
theorem dX10_pledge_5 : decode cX10_pledge 5 = .ok (.ifCond .eq 30, 3) := dX10_pledge_all0.2.2.2.1
theorem dX10_pledge_8 : decode cX10_pledge 8 = .ok (.iload_n 2, 1) := dX10_pledge_all0.2.2.2.2.1
theorem dX10_pledge_9 : decode cX10_pledge 9 = .ok (.invokestatic 160, 3) := dX10_pledge_all0.2.2.2.2.2.1
theorem dX10_pledge_12 : decode cX10_pledge 12 = .ok (.ifCond .eq 23, 3) := dX10_pledge_all0.2.2.2.2.2.2.1
theorem dX10_pledge_15 : decode cX10_pledge 15 = .ok (.iload_n 3, 1) := dX10_pledge_all0.2.2.2.2.2.2.2.1
theorem dX10_pledge_16 : decode cX10_pledge 16 = .ok (.iconst 1, 1) := dX10_pledge_all0.2.2.2.2.2.2.2.2.1
theorem dX10_pledge_17 : decode cX10_pledge 17 = .ok (.ldc 176, 2) := dX10_pledge_all0.2.2.2.2.2.2.2.2.2.1
theorem dX10_pledge_19 : decode cX10_pledge 19 = .ok (.invokestatic 135, 3) := dX10_pledge_all0.2.2.2.2.2.2.2.2.2.2.1
theorem dX10_pledge_22 : decode cX10_pledge 22 = .ok (.ifCond .eq 13, 3) := dX10_pledge_all0.2.2.2.2.2.2.2.2.2.2.2
theorem dX10_pledge_all1 : decode cX10_pledge 25 = .ok (.iload 4, 2) ∧ decode cX10_pledge 27 = .ok (.iload 5, 2) ∧ decode cX10_pledge 29 = .ok (.invokestatic 183, 3) ∧ decode cX10_pledge 32 = .ok (.ifCond .ne 6, 3) ∧ decode cX10_pledge 35 = .ok (.ldc 89, 2) ∧ decode cX10_pledge 37 = .ok (.ireturn, 1) ∧ decode cX10_pledge 38 = .ok (.aload_n 0, 1) ∧ decode cX10_pledge 39 = .ok (.getfield 40, 3) ∧ decode cX10_pledge 42 = .ok (.getfield 199, 3) ∧ decode cX10_pledge 45 = .ok (.bipush 40, 2) ∧ decode cX10_pledge 47 = .ok (.if_icmp .lt 6, 3) ∧ decode cX10_pledge 50 = .ok (.ldc 145, 2) := by decide +kernel
theorem dX10_pledge_25 : decode cX10_pledge 25 = .ok (.iload 4, 2) := dX10_pledge_all1.1
theorem dX10_pledge_27 : decode cX10_pledge 27 = .ok (.iload 5, 2) := dX10_pledge_all1.2.1
theorem dX10_pledge_29 : decode cX10_pledge 29 = .ok (.invokestatic 183, 3) := dX10_pledge_all1.2.2.1
theorem dX10_pledge_32 : decode cX10_pledge 32 = .ok (.ifCond .ne 6, 3) := dX10_pledge_all1.2.2.2.1
theorem dX10_pledge_35 : decode cX10_pledge 35 = .ok (.ldc 89, 2) := dX10_pledge_all1.2.2.2.2.1
theorem dX10_pledge_37 : decode cX10_pledge 37 = .ok (.ireturn, 1) := dX10_pledge_all1.2.2.2.2.2.1
theorem dX10_pledge_38 : decode cX10_pledge 38 = .ok (.aload_n 0, 1) := dX10_pledge_all1.2.2.2.2.2.2.1
theorem dX10_pledge_39 : decode cX10_pledge 39 = .ok (.getfield 40, 3) := dX10_pledge_all1.2.2.2.2.2.2.2.1
theorem dX10_pledge_42 : decode cX10_pledge 42 = .ok (.getfield 199, 3) := dX10_pledge_all1.2.2.2.2.2.2.2.2.1
theorem dX10_pledge_45 : decode cX10_pledge 45 = .ok (.bipush 40, 2) := dX10_pledge_all1.2.2.2.2.2.2.2.2.2.1
theorem dX10_pledge_47 : decode cX10_pledge 47 = .ok (.if_icmp .lt 6, 3) := dX10_pledge_all1.2.2.2.2.2.2.2.2.2.2.1
theorem dX10_pledge_50 : decode cX10_pledge 50 = .ok (.ldc 145, 2) := dX10_pledge_all1.2.2.2.2.2.2.2.2.2.2.2
theorem dX10_pledge_all2 : decode cX10_pledge 52 = .ok (.ireturn, 1) ∧ decode cX10_pledge 53 = .ok (.aload_n 0, 1) ∧ decode cX10_pledge 54 = .ok (.getfield 40, 3) ∧ decode cX10_pledge 57 = .ok (.iload_n 1, 1) ∧ decode cX10_pledge 58 = .ok (.iload_n 3, 1) ∧ decode cX10_pledge 59 = .ok (.iload 4, 2) ∧ decode cX10_pledge 61 = .ok (.iload 5, 2) ∧ decode cX10_pledge 63 = .ok (.invokevirtual 200, 3) ∧ decode cX10_pledge 66 = .ok (.ireturn, 1) := by decide +kernel
theorem dX10_pledge_52 : decode cX10_pledge 52 = .ok (.ireturn, 1) := dX10_pledge_all2.1
theorem dX10_pledge_53 : decode cX10_pledge 53 = .ok (.aload_n 0, 1) := dX10_pledge_all2.2.1
theorem dX10_pledge_54 : decode cX10_pledge 54 = .ok (.getfield 40, 3) := dX10_pledge_all2.2.2.1
theorem dX10_pledge_57 : decode cX10_pledge 57 = .ok (.iload_n 1, 1) := dX10_pledge_all2.2.2.2.1
theorem dX10_pledge_58 : decode cX10_pledge 58 = .ok (.iload_n 3, 1) := dX10_pledge_all2.2.2.2.2.1
theorem dX10_pledge_59 : decode cX10_pledge 59 = .ok (.iload 4, 2) := dX10_pledge_all2.2.2.2.2.2.1
theorem dX10_pledge_61 : decode cX10_pledge 61 = .ok (.iload 5, 2) := dX10_pledge_all2.2.2.2.2.2.2.1
theorem dX10_pledge_63 : decode cX10_pledge 63 = .ok (.invokevirtual 200, 3) := dX10_pledge_all2.2.2.2.2.2.2.2.1
theorem dX10_pledge_66 : decode cX10_pledge 66 = .ok (.ireturn, 1) := dX10_pledge_all2.2.2.2.2.2.2.2.2
theorem ggX10_act_X10_isCrate : GoodIn wsX10_act wsX10_isCrate := goodIn_s (fun _ h => wm_t (wm_r (wm_l (wm_r (wm_r h))))) Gd_X10_isCrate
theorem gX10_act_X10_isCrate : GoodIn wsX10_act (wsV RX10 180 RX10 yX10_isCrate wsX10_isCrate) := goodIn_V (own := RX10) (idx := 180) (C := RX10) (y := yX10_isCrate) (wm_t (wm_l (wm_i 4 rfl))) (wm_t (wm_l (wm_i 5 rfl))) (wm_t (wm_l (wm_i 6 rfl))) (wm_t (wm_l (wm_i 7 rfl))) ggX10_act_X10_isCrate
theorem ggX10_act_X10_isBelow : GoodIn wsX10_act wsX10_isBelow := goodIn_s (fun _ h => wm_t (wm_r (wm_r (wm_l (wm_l h))))) Gd_X10_isBelow
theorem gX10_act_X10_isBelow : GoodIn wsX10_act (va_wsS RX10 85 yX10_isBelow wsX10_isBelow) := goodIn_S (own := RX10) (idx := 85) (y := yX10_isBelow) (wm_t (wm_l (wm_i 8 rfl))) (wm_t (wm_l (wm_i 9 rfl))) (wm_t (wm_l (wm_i 7 rfl))) ggX10_act_X10_isBelow
theorem ggX10_act_X10_isDay : GoodIn wsX10_act wsX10_isDay := goodIn_s (fun _ h => wm_t (wm_r (wm_r (wm_l (wm_r h))))) Gd_X10_isDay
theorem gX10_act_X10_isDay : GoodIn wsX10_act (va_wsS RX10 138 yX10_isDay wsX10_isDay) := goodIn_S (own := RX10) (idx := 138) (y := yX10_isDay) (wm_t (wm_l (wm_i 10 rfl))) (wm_t (wm_l (wm_i 11 rfl))) (wm_t (wm_l (wm_i 7 rfl))) ggX10_act_X10_isDay
theorem ggX10_act_X10_isFrom : GoodIn wsX10_act wsX10_isFrom := goodIn_s (fun _ h => wm_t (wm_r (wm_r (wm_r (wm_l h))))) Gd_X10_isFrom
theorem gX10_act_X10_isFrom : GoodIn wsX10_act (va_wsS RX10 135 yX10_isFrom wsX10_isFrom) := goodIn_S (own := RX10) (idx := 135) (y := yX10_isFrom) (wm_t (wm_l (wm_i 12 rfl))) (wm_t (wm_l (wm_i 13 rfl))) (wm_t (wm_l (wm_i 7 rfl))) ggX10_act_X10_isFrom
theorem ggX10_act_X0_tell : GoodIn wsX10_act wsX0_tell := goodIn_s (fun _ h => wm_t (wm_r (wm_r (wm_r (wm_r h))))) Gd_X0_tell
theorem gX10_act_X0_tell : GoodIn wsX10_act (wsV RX10 228 RX0 yX0_tell wsX0_tell) := goodIn_V (own := RX10) (idx := 228) (C := RX0) (y := yX0_tell) (wm_t (wm_l (wm_i 14 rfl))) (wm_t (wm_l (wm_i 15 rfl))) (wm_t (wm_l (wm_i 16 rfl))) (wm_t (wm_l (wm_i 17 rfl))) ggX10_act_X0_tell
theorem dX10_act_all0 : decode cX10_act 0 = .ok (.aload_n 0, 1) ∧ decode cX10_act 1 = .ok (.iload_n 1, 1) ∧ decode cX10_act 2 = .ok (.invokevirtual 180, 3) ∧ decode cX10_act 5 = .ok (.ifCond .eq 30, 3) ∧ decode cX10_act 8 = .ok (.iload_n 2, 1) ∧ decode cX10_act 9 = .ok (.iconst 4, 1) ∧ decode cX10_act 10 = .ok (.invokestatic 85, 3) ∧ decode cX10_act 13 = .ok (.ifCond .eq 22, 3) ∧ decode cX10_act 16 = .ok (.iload_n 3, 1) ∧ decode cX10_act 17 = .ok (.invokestatic 138, 3) ∧ decode cX10_act 20 = .ok (.ifCond .eq 15, 3) ∧ decode cX10_act 23 = .ok (.iload 4, 2) := by decide +kernel
theorem dX10_act_0 : decode cX10_act 0 = .ok (.aload_n 0, 1) := dX10_act_all0.1
theorem dX10_act_1 : decode cX10_act 1 = .ok (.iload_n 1, 1) := dX10_act_all0.2.1
theorem dX10_act_2 : decode cX10_act 2 = .ok (.invokevirtual 180, 3) := dX10_act_all0.2.2.1
theorem dX10_act_5 : decode cX10_act 5 = .ok (.ifCond .eq 30, 3) := dX10_act_all0.2.2.2.1
theorem dX10_act_8 : decode cX10_act 8 = .ok (.iload_n 2, 1) := dX10_act_all0.2.2.2.2.1
theorem dX10_act_9 : decode cX10_act 9 = .ok (.iconst 4, 1) := dX10_act_all0.2.2.2.2.2.1
theorem dX10_act_10 : decode cX10_act 10 = .ok (.invokestatic 85, 3) := dX10_act_all0.2.2.2.2.2.2.1
theorem dX10_act_13 : decode cX10_act 13 = .ok (.ifCond .eq 22, 3) := dX10_act_all0.2.2.2.2.2.2.2.1
theorem dX10_act_16 : decode cX10_act 16 = .ok (.iload_n 3, 1) := dX10_act_all0.2.2.2.2.2.2.2.2.1
theorem dX10_act_17 : decode cX10_act 17 = .ok (.invokestatic 138, 3) := dX10_act_all0.2.2.2.2.2.2.2.2.2.1
theorem dX10_act_20 : decode cX10_act 20 = .ok (.ifCond .eq 15, 3) := dX10_act_all0.2.2.2.2.2.2.2.2.2.2.1
theorem dX10_act_23 : decode cX10_act 23 = .ok (.iload 4, 2) := dX10_act_all0.2.2.2.2.2.2.2.2.2.2.2
theorem dX10_act_all1 : decode cX10_act 25 = .ok (.iconst 0, 1) ∧ decode cX10_act 26 = .ok (.sipush 999, 3) ∧ decode cX10_act 29 = .ok (.invokestatic 135, 3) ∧ decode cX10_act 32 = .ok (.ifCond .ne 6, 3) ∧ decode cX10_act 35 = .ok (.ldc 89, 2) ∧ decode cX10_act 37 = .ok (.ireturn, 1) ∧ decode cX10_act 38 = .ok (.aload_n 0, 1) ∧ decode cX10_act 39 = .ok (.getfield 54, 3) ∧ decode cX10_act 42 = .ok (.getfield 227, 3) ∧ decode cX10_act 45 = .ok (.bipush 60, 2) ∧ decode cX10_act 47 = .ok (.if_icmp .lt 6, 3) ∧ decode cX10_act 50 = .ok (.ldc 145, 2) := by decide +kernel
theorem dX10_act_25 : decode cX10_act 25 = .ok (.iconst 0, 1) := dX10_act_all1.1
theorem dX10_act_26 : decode cX10_act 26 = .ok (.sipush 999, 3) := dX10_act_all1.2.1
theorem dX10_act_29 : decode cX10_act 29 = .ok (.invokestatic 135, 3) := dX10_act_all1.2.2.1
theorem dX10_act_32 : decode cX10_act 32 = .ok (.ifCond .ne 6, 3) := dX10_act_all1.2.2.2.1
theorem dX10_act_35 : decode cX10_act 35 = .ok (.ldc 89, 2) := dX10_act_all1.2.2.2.2.1
theorem dX10_act_37 : decode cX10_act 37 = .ok (.ireturn, 1) := dX10_act_all1.2.2.2.2.2.1
theorem dX10_act_38 : decode cX10_act 38 = .ok (.aload_n 0, 1) := dX10_act_all1.2.2.2.2.2.2.1
theorem dX10_act_39 : decode cX10_act 39 = .ok (.getfield 54, 3) := dX10_act_all1.2.2.2.2.2.2.2.1
theorem dX10_act_42 : decode cX10_act 42 = .ok (.getfield 227, 3) := dX10_act_all1.2.2.2.2.2.2.2.2.1
theorem dX10_act_45 : decode cX10_act 45 = .ok (.bipush 60, 2) := dX10_act_all1.2.2.2.2.2.2.2.2.2.1
theorem dX10_act_47 : decode cX10_act 47 = .ok (.if_icmp .lt 6, 3) := dX10_act_all1.2.2.2.2.2.2.2.2.2.2.1
theorem dX10_act_50 : decode cX10_act 50 = .ok (.ldc 145, 2) := dX10_act_all1.2.2.2.2.2.2.2.2.2.2.2
theorem dX10_act_all2 : decode cX10_act 52 = .ok (.ireturn, 1) ∧ decode cX10_act 53 = .ok (.aload_n 0, 1) ∧ decode cX10_act 54 = .ok (.getfield 54, 3) ∧ decode cX10_act 57 = .ok (.iload_n 1, 1) ∧ decode cX10_act 58 = .ok (.iload_n 2, 1) ∧ decode cX10_act 59 = .ok (.iload_n 3, 1) ∧ decode cX10_act 60 = .ok (.iload 4, 2) ∧ decode cX10_act 62 = .ok (.invokevirtual 228, 3) ∧ decode cX10_act 65 = .ok (.ireturn, 1) := by decide +kernel
theorem dX10_act_52 : decode cX10_act 52 = .ok (.ireturn, 1) := dX10_act_all2.1
theorem dX10_act_53 : decode cX10_act 53 = .ok (.aload_n 0, 1) := dX10_act_all2.2.1
theorem dX10_act_54 : decode cX10_act 54 = .ok (.getfield 54, 3) := dX10_act_all2.2.2.1
theorem dX10_act_57 : decode cX10_act 57 = .ok (.iload_n 1, 1) := dX10_act_all2.2.2.2.1
theorem dX10_act_58 : decode cX10_act 58 = .ok (.iload_n 2, 1) := dX10_act_all2.2.2.2.2.1
theorem dX10_act_59 : decode cX10_act 59 = .ok (.iload_n 3, 1) := dX10_act_all2.2.2.2.2.2.1
theorem dX10_act_60 : decode cX10_act 60 = .ok (.iload 4, 2) := dX10_act_all2.2.2.2.2.2.2.1
theorem dX10_act_62 : decode cX10_act 62 = .ok (.invokevirtual 228, 3) := dX10_act_all2.2.2.2.2.2.2.2.1
theorem dX10_act_65 : decode cX10_act 65 = .ok (.ireturn, 1) := dX10_act_all2.2.2.2.2.2.2.2.2
theorem ggX10_opened_X10_isCrate : GoodIn wsX10_opened wsX10_isCrate := goodIn_s (fun _ h => wm_t (wm_r (wm_l (wm_r (wm_r h))))) Gd_X10_isCrate
theorem gX10_opened_X10_isCrate : GoodIn wsX10_opened (wsV RX10 180 RX10 yX10_isCrate wsX10_isCrate) := goodIn_V (own := RX10) (idx := 180) (C := RX10) (y := yX10_isCrate) (wm_t (wm_l (wm_i 5 rfl))) (wm_t (wm_l (wm_i 6 rfl))) (wm_t (wm_l (wm_i 7 rfl))) (wm_t (wm_l (wm_i 8 rfl))) ggX10_opened_X10_isCrate
theorem ggX10_opened_X10_isDay : GoodIn wsX10_opened wsX10_isDay := goodIn_s (fun _ h => wm_t (wm_r (wm_r (wm_l (wm_l h))))) Gd_X10_isDay
theorem gX10_opened_X10_isDay : GoodIn wsX10_opened (va_wsS RX10 138 yX10_isDay wsX10_isDay) := goodIn_S (own := RX10) (idx := 138) (y := yX10_isDay) (wm_t (wm_l (wm_i 9 rfl))) (wm_t (wm_l (wm_i 10 rfl))) (wm_t (wm_l (wm_i 8 rfl))) ggX10_opened_X10_isDay
theorem ggX10_opened_X10_isFrom : GoodIn wsX10_opened wsX10_isFrom := goodIn_s (fun _ h => wm_t (wm_r (wm_r (wm_l (wm_r h))))) Gd_X10_isFrom
theorem gX10_opened_X10_isFrom : GoodIn wsX10_opened (va_wsS RX10 135 yX10_isFrom wsX10_isFrom) := goodIn_S (own := RX10) (idx := 135) (y := yX10_isFrom) (wm_t (wm_l (wm_i 11 rfl))) (wm_t (wm_l (wm_i 12 rfl))) (wm_t (wm_l (wm_i 8 rfl))) ggX10_opened_X10_isFrom
theorem ggX10_opened_X6_tell : GoodIn wsX10_opened wsX6_tell := goodIn_s (fun _ h => wm_t (wm_r (wm_r (wm_r h)))) Gd_X6_tell
theorem gX10_opened_X6_tell : GoodIn wsX10_opened (wsV RX10 288 RX6 yX6_tell wsX6_tell) := goodIn_V (own := RX10) (idx := 288) (C := RX6) (y := yX6_tell) (wm_t (wm_l (wm_i 13 rfl))) (wm_t (wm_l (wm_i 14 rfl))) (wm_t (wm_l (wm_i 15 rfl))) (wm_t (wm_l (wm_i 16 rfl))) ggX10_opened_X6_tell
theorem dX10_opened_all0 : decode cX10_opened 0 = .ok (.aload_n 0, 1) ∧ decode cX10_opened 1 = .ok (.iload_n 1, 1) ∧ decode cX10_opened 2 = .ok (.invokevirtual 180, 3) ∧ decode cX10_opened 5 = .ok (.ifCond .eq 32, 3) ∧ decode cX10_opened 8 = .ok (.iload_n 2, 1) ∧ decode cX10_opened 9 = .ok (.invokestatic 138, 3) ∧ decode cX10_opened 12 = .ok (.ifCond .eq 25, 3) ∧ decode cX10_opened 15 = .ok (.iload_n 3, 1) ∧ decode cX10_opened 16 = .ok (.iconst 1, 1) ∧ decode cX10_opened 17 = .ok (.ldc 176, 2) ∧ decode cX10_opened 19 = .ok (.invokestatic 135, 3) ∧ decode cX10_opened 22 = .ok (.ifCond .eq 15, 3) := by decide +kernel
theorem dX10_opened_0 : decode cX10_opened 0 = .ok (.aload_n 0, 1) := dX10_opened_all0.1
theorem dX10_opened_1 : decode cX10_opened 1 = .ok (.iload_n 1, 1) := dX10_opened_all0.2.1
theorem dX10_opened_2 : decode cX10_opened 2 = .ok (.invokevirtual 180, 3) := dX10_opened_all0.2.2.1
theorem dX10_opened_5 : decode cX10_opened 5 = .ok (.ifCond .eq 32, 3) := dX10_opened_all0.2.2.2.1
theorem dX10_opened_8 : decode cX10_opened 8 = .ok (.iload_n 2, 1) := dX10_opened_all0.2.2.2.2.1
theorem dX10_opened_9 : decode cX10_opened 9 = .ok (.invokestatic 138, 3) := dX10_opened_all0.2.2.2.2.2.1
theorem dX10_opened_12 : decode cX10_opened 12 = .ok (.ifCond .eq 25, 3) := dX10_opened_all0.2.2.2.2.2.2.1
theorem dX10_opened_15 : decode cX10_opened 15 = .ok (.iload_n 3, 1) := dX10_opened_all0.2.2.2.2.2.2.2.1
theorem dX10_opened_16 : decode cX10_opened 16 = .ok (.iconst 1, 1) := dX10_opened_all0.2.2.2.2.2.2.2.2.1
theorem dX10_opened_17 : decode cX10_opened 17 = .ok (.ldc 176, 2) := dX10_opened_all0.2.2.2.2.2.2.2.2.2.1
theorem dX10_opened_19 : decode cX10_opened 19 = .ok (.invokestatic 135, 3) := dX10_opened_all0.2.2.2.2.2.2.2.2.2.2.1
theorem dX10_opened_22 : decode cX10_opened 22 = .ok (.ifCond .eq 15, 3) := dX10_opened_all0.2.2.2.2.2.2.2.2.2.2.2
theorem dX10_opened_all1 : decode cX10_opened 25 = .ok (.iload 4, 2) ∧ decode cX10_opened 27 = .ok (.iconst 0, 1) ∧ decode cX10_opened 28 = .ok (.sipush 255, 3) ∧ decode cX10_opened 31 = .ok (.invokestatic 135, 3) ∧ decode cX10_opened 34 = .ok (.ifCond .ne 6, 3) ∧ decode cX10_opened 37 = .ok (.ldc 89, 2) ∧ decode cX10_opened 39 = .ok (.ireturn, 1) ∧ decode cX10_opened 40 = .ok (.aload_n 0, 1) ∧ decode cX10_opened 41 = .ok (.getfield 61, 3) ∧ decode cX10_opened 44 = .ok (.getfield 287, 3) ∧ decode cX10_opened 47 = .ok (.bipush 60, 2) ∧ decode cX10_opened 49 = .ok (.if_icmp .lt 6, 3) := by decide +kernel
theorem dX10_opened_25 : decode cX10_opened 25 = .ok (.iload 4, 2) := dX10_opened_all1.1
theorem dX10_opened_27 : decode cX10_opened 27 = .ok (.iconst 0, 1) := dX10_opened_all1.2.1
theorem dX10_opened_28 : decode cX10_opened 28 = .ok (.sipush 255, 3) := dX10_opened_all1.2.2.1
theorem dX10_opened_31 : decode cX10_opened 31 = .ok (.invokestatic 135, 3) := dX10_opened_all1.2.2.2.1
theorem dX10_opened_34 : decode cX10_opened 34 = .ok (.ifCond .ne 6, 3) := dX10_opened_all1.2.2.2.2.1
theorem dX10_opened_37 : decode cX10_opened 37 = .ok (.ldc 89, 2) := dX10_opened_all1.2.2.2.2.2.1
theorem dX10_opened_39 : decode cX10_opened 39 = .ok (.ireturn, 1) := dX10_opened_all1.2.2.2.2.2.2.1
theorem dX10_opened_40 : decode cX10_opened 40 = .ok (.aload_n 0, 1) := dX10_opened_all1.2.2.2.2.2.2.2.1
theorem dX10_opened_41 : decode cX10_opened 41 = .ok (.getfield 61, 3) := dX10_opened_all1.2.2.2.2.2.2.2.2.1
theorem dX10_opened_44 : decode cX10_opened 44 = .ok (.getfield 287, 3) := dX10_opened_all1.2.2.2.2.2.2.2.2.2.1
theorem dX10_opened_47 : decode cX10_opened 47 = .ok (.bipush 60, 2) := dX10_opened_all1.2.2.2.2.2.2.2.2.2.2.1
theorem dX10_opened_49 : decode cX10_opened 49 = .ok (.if_icmp .lt 6, 3) := dX10_opened_all1.2.2.2.2.2.2.2.2.2.2.2
theorem dX10_opened_all2 : decode cX10_opened 52 = .ok (.ldc 145, 2) ∧ decode cX10_opened 54 = .ok (.ireturn, 1) ∧ decode cX10_opened 55 = .ok (.aload_n 0, 1) ∧ decode cX10_opened 56 = .ok (.getfield 61, 3) ∧ decode cX10_opened 59 = .ok (.iload_n 1, 1) ∧ decode cX10_opened 60 = .ok (.iload_n 2, 1) ∧ decode cX10_opened 61 = .ok (.iload_n 3, 1) ∧ decode cX10_opened 62 = .ok (.iload 4, 2) ∧ decode cX10_opened 64 = .ok (.invokevirtual 288, 3) ∧ decode cX10_opened 67 = .ok (.ireturn, 1) := by decide +kernel
theorem dX10_opened_52 : decode cX10_opened 52 = .ok (.ldc 145, 2) := dX10_opened_all2.1
theorem dX10_opened_54 : decode cX10_opened 54 = .ok (.ireturn, 1) := dX10_opened_all2.2.1
theorem dX10_opened_55 : decode cX10_opened 55 = .ok (.aload_n 0, 1) := dX10_opened_all2.2.2.1
theorem dX10_opened_56 : decode cX10_opened 56 = .ok (.getfield 61, 3) := dX10_opened_all2.2.2.2.1
theorem dX10_opened_59 : decode cX10_opened 59 = .ok (.iload_n 1, 1) := dX10_opened_all2.2.2.2.2.1
theorem dX10_opened_60 : decode cX10_opened 60 = .ok (.iload_n 2, 1) := dX10_opened_all2.2.2.2.2.2.1
theorem dX10_opened_61 : decode cX10_opened 61 = .ok (.iload_n 3, 1) := dX10_opened_all2.2.2.2.2.2.2.1
theorem dX10_opened_62 : decode cX10_opened 62 = .ok (.iload 4, 2) := dX10_opened_all2.2.2.2.2.2.2.2.1
theorem dX10_opened_64 : decode cX10_opened 64 = .ok (.invokevirtual 288, 3) := dX10_opened_all2.2.2.2.2.2.2.2.2.1
theorem dX10_opened_67 : decode cX10_opened 67 = .ok (.ireturn, 1) := dX10_opened_all2.2.2.2.2.2.2.2.2.2
theorem ggX10_list_X10_isPerson : GoodIn wsX10_list wsX10_isPerson := goodIn_s (fun _ h => wm_t (wm_r (wm_l (wm_r h)))) Gd_X10_isPerson
theorem gX10_list_X10_isPerson : GoodIn wsX10_list (va_wsS RX10 160 yX10_isPerson wsX10_isPerson) := goodIn_S (own := RX10) (idx := 160) (y := yX10_isPerson) (wm_t (wm_l (wm_i 4 rfl))) (wm_t (wm_l (wm_i 5 rfl))) (wm_t (wm_l (wm_i 6 rfl))) ggX10_list_X10_isPerson
theorem ggX10_list_X10_areDays : GoodIn wsX10_list wsX10_areDays := goodIn_s (fun _ h => wm_t (wm_r (wm_r (wm_l h)))) Gd_X10_areDays
theorem gX10_list_X10_areDays : GoodIn wsX10_list (va_wsS RX10 183 yX10_areDays wsX10_areDays) := goodIn_S (own := RX10) (idx := 183) (y := yX10_areDays) (wm_t (wm_l (wm_i 7 rfl))) (wm_t (wm_l (wm_i 8 rfl))) (wm_t (wm_l (wm_i 6 rfl))) ggX10_list_X10_areDays
theorem ggX10_list_X4_tell : GoodIn wsX10_list wsX4_tell := goodIn_s (fun _ h => wm_t (wm_r (wm_r (wm_r h)))) Gd_X4_tell
theorem gX10_list_X4_tell : GoodIn wsX10_list (wsV RX10 293 RX4 yX4_tell wsX4_tell) := goodIn_V (own := RX10) (idx := 293) (C := RX4) (y := yX4_tell) (wm_t (wm_l (wm_i 9 rfl))) (wm_t (wm_l (wm_i 10 rfl))) (wm_t (wm_l (wm_i 11 rfl))) (wm_t (wm_l (wm_i 12 rfl))) ggX10_list_X4_tell
theorem dX10_list_all0 : decode cX10_list 0 = .ok (.iload_n 1, 1) ∧ decode cX10_list 1 = .ok (.invokestatic 160, 3) ∧ decode cX10_list 4 = .ok (.ifCond .eq 11, 3) ∧ decode cX10_list 7 = .ok (.iload_n 2, 1) ∧ decode cX10_list 8 = .ok (.iload_n 3, 1) ∧ decode cX10_list 9 = .ok (.invokestatic 183, 3) ∧ decode cX10_list 12 = .ok (.ifCond .ne 6, 3) ∧ decode cX10_list 15 = .ok (.ldc 89, 2) ∧ decode cX10_list 17 = .ok (.ireturn, 1) ∧ decode cX10_list 18 = .ok (.aload_n 0, 1) ∧ decode cX10_list 19 = .ok (.getfield 68, 3) ∧ decode cX10_list 22 = .ok (.getfield 292, 3) := by decide +kernel
theorem dX10_list_0 : decode cX10_list 0 = .ok (.iload_n 1, 1) := dX10_list_all0.1
theorem dX10_list_1 : decode cX10_list 1 = .ok (.invokestatic 160, 3) := dX10_list_all0.2.1
theorem dX10_list_4 : decode cX10_list 4 = .ok (.ifCond .eq 11, 3) := dX10_list_all0.2.2.1
theorem dX10_list_7 : decode cX10_list 7 = .ok (.iload_n 2, 1) := dX10_list_all0.2.2.2.1
theorem dX10_list_8 : decode cX10_list 8 = .ok (.iload_n 3, 1) := dX10_list_all0.2.2.2.2.1
theorem dX10_list_9 : decode cX10_list 9 = .ok (.invokestatic 183, 3) := dX10_list_all0.2.2.2.2.2.1
theorem dX10_list_12 : decode cX10_list 12 = .ok (.ifCond .ne 6, 3) := dX10_list_all0.2.2.2.2.2.2.1
theorem dX10_list_15 : decode cX10_list 15 = .ok (.ldc 89, 2) := dX10_list_all0.2.2.2.2.2.2.2.1
theorem dX10_list_17 : decode cX10_list 17 = .ok (.ireturn, 1) := dX10_list_all0.2.2.2.2.2.2.2.2.1
theorem dX10_list_18 : decode cX10_list 18 = .ok (.aload_n 0, 1) := dX10_list_all0.2.2.2.2.2.2.2.2.2.1
theorem dX10_list_19 : decode cX10_list 19 = .ok (.getfield 68, 3) := dX10_list_all0.2.2.2.2.2.2.2.2.2.2.1
theorem dX10_list_22 : decode cX10_list 22 = .ok (.getfield 292, 3) := dX10_list_all0.2.2.2.2.2.2.2.2.2.2.2
theorem dX10_list_all1 : decode cX10_list 25 = .ok (.bipush 20, 2) ∧ decode cX10_list 27 = .ok (.if_icmp .lt 6, 3) ∧ decode cX10_list 30 = .ok (.ldc 145, 2) ∧ decode cX10_list 32 = .ok (.ireturn, 1) ∧ decode cX10_list 33 = .ok (.aload_n 0, 1) ∧ decode cX10_list 34 = .ok (.getfield 68, 3) ∧ decode cX10_list 37 = .ok (.iload_n 1, 1) ∧ decode cX10_list 38 = .ok (.iload_n 2, 1) ∧ decode cX10_list 39 = .ok (.iload_n 3, 1) ∧ decode cX10_list 40 = .ok (.invokevirtual 293, 3) ∧ decode cX10_list 43 = .ok (.ireturn, 1) := by decide +kernel
theorem dX10_list_25 : decode cX10_list 25 = .ok (.bipush 20, 2) := dX10_list_all1.1
theorem dX10_list_27 : decode cX10_list 27 = .ok (.if_icmp .lt 6, 3) := dX10_list_all1.2.1
theorem dX10_list_30 : decode cX10_list 30 = .ok (.ldc 145, 2) := dX10_list_all1.2.2.1
theorem dX10_list_32 : decode cX10_list 32 = .ok (.ireturn, 1) := dX10_list_all1.2.2.2.1
theorem dX10_list_33 : decode cX10_list 33 = .ok (.aload_n 0, 1) := dX10_list_all1.2.2.2.2.1
theorem dX10_list_34 : decode cX10_list 34 = .ok (.getfield 68, 3) := dX10_list_all1.2.2.2.2.2.1
theorem dX10_list_37 : decode cX10_list 37 = .ok (.iload_n 1, 1) := dX10_list_all1.2.2.2.2.2.2.1
theorem dX10_list_38 : decode cX10_list 38 = .ok (.iload_n 2, 1) := dX10_list_all1.2.2.2.2.2.2.2.1
theorem dX10_list_39 : decode cX10_list 39 = .ok (.iload_n 3, 1) := dX10_list_all1.2.2.2.2.2.2.2.2.1
theorem dX10_list_40 : decode cX10_list 40 = .ok (.invokevirtual 293, 3) := dX10_list_all1.2.2.2.2.2.2.2.2.2.1
theorem dX10_list_43 : decode cX10_list 43 = .ok (.ireturn, 1) := dX10_list_all1.2.2.2.2.2.2.2.2.2.2
set_option maxHeartbeats 4000000 in
set_option maxRecDepth 100000 in
theorem ct_X3_tell (l : Launch) (D : va_G) (cI cY cJ cQ : ClassId) (sz : Nat) (ad : Nat → Nat) (hn : Int32) (ho hc hp hs : Nat → Int32) (o : Int32) (k : Int32) (q : Int32) (d : Int32)  (h1 : 0 ≤ hn.toInt) (h2 : hn.toInt < 40)  : Met l yX3_tell wsX3_tell ({ frames := 0, cells := 0, slots := 0, locals := 0 }) (cPre D (ty4 cI cY cJ cQ) [(oC3 ad hn), (aI cI (ad 23) 40 ho), (aI cI (ad 24) 40 hc), (aI cI (ad 25) 40 hp), (aI cI (ad 26) 40 hs)] sz [.ref (ad 2), .int o, .int k, .int q, .int d]) (va_Qi (fun (r : Int32) (u : Unit) => r = hn + 1) (cB D (ty4 cI cY cJ cQ) (fun (u : Unit) => [(oC3 ad (hn + 1)), (aI cI (ad 23) 40 (upd ho hn.toNatClampNeg o)), (aI cI (ad 24) 40 (upd hc hn.toNatClampNeg k)), (aI cI (ad 25) 40 (upd hp hn.toNatClampNeg q)), (aI cI (ad 26) 40 (upd hs hn.toNatClampNeg d))]) (va_A [(oC3 ad hn), (aI cI (ad 23) 40 ho), (aI cI (ad 24) 40 hc), (aI cI (ad 25) 40 hp), (aI cI (ad 26) 40 hs)] sz)) (va_A [(oC3 ad hn), (aI cI (ad 23) 40 ho), (aI cI (ad 24) 40 hc), (aI cI (ad 25) 40 hp), (aI cI (ad 26) 40 hs)] sz)) 0 0 (va_A [(oC3 ad hn), (aI cI (ad 23) 40 ho), (aI cI (ad 24) 40 hc), (aI cI (ad 25) 40 hp), (aI cI (ad 26) 40 hs)] sz) := by
  refine Met.ofW (cc := cX3_tell) (maxL := 5) (ret := (some .int)) (by decide) rfl ?_
  intro p e s m args below meth c s₁ B hml hv
  obtain ⟨rfl, hsz, hP, hK, hD0, hN⟩ := hv
  have hx := B.exec
  have hb := B.bytes
  have hr := B.returns
  have hts := atoms_spec (ws := wsX3_tell) B.pre
  have hown : s.vm.findClass RX3 = some m.cls := findClass_of_methodNamed B.named
  have hlocks := B.notSynchronized
  subst hsz
  have hD := hD0.self (sz := s.heap.size)
  generalize hAe : va_A [(oC3 ad hn), (aI cI (ad 23) 40 ho), (aI cI (ad 24) 40 hc), (aI cI (ad 25) 40 hp), (aI cI (ad 26) 40 hs)] s.heap.size = A at hD ⊢
  have hA : ∀ q : Nat, s.heap.size ≤ q → A q := fun q h => by rw [← hAe]; exact Or.inr h
  have hS : va_S A s.heap s.heap [] := va_S.rf
  have hP : va_P D vwCl [(oC3 ad hn), (aI cI (ad 23) 40 ho), (aI cI (ad 24) 40 hc), (aI cI (ad 25) 40 hp), (aI cI (ad 26) 40 hs)] s.heap := hP
  have hl := lv_entry ([.ref (ad 2), .int o, .int k, .int q, .int d]) (n := 5) (Nat.le_of_ble_eq_true rfl)
  rw [lg_entry_eq]
  generalize (lg_sl ([.ref (ad 2), .int o, .int k, .int q, .int d]) ++ List.replicate (5 - (lg_sl ([.ref (ad 2), .int o, .int k, .int q, .int d])).length) Slot.unset).toArray = ls at hl ⊢
  have hl : lv_has ls 5 [(0, .ref (ad 2)), (1, .int o), (2, .int k), (3, .int q), (4, .int d)] := hl
  have k1 : (1 : Int32).toInt = 1 := by decide
  refine lv_aload_n hx hb dX3_tell_0 rfl (lv_at hl 0 rfl) ?_
  refine va_get (D := D) (ci := 3) (v := .ref (ad 23)) (C := RX3) (T := TX3) (N := 9) hx hb hts inX3_tell_X3 hown hK hP 0 rfl rfl 0 (by decide) (hts (Cond.fieldLink RX3 9 "PortRooms$Holdings" "owner" "[I") (wm_t (wm_l (wm_i 0 rfl)))) (fun _ h9 => h9) rfl dX3_tell_1 ?_
  refine lv_aload_n hx hb dX3_tell_4 rfl (lv_at hl 0 rfl) ?_
  refine va_get (D := D) (ci := 3) (v := .int hn) (C := RX3) (T := TX3) (N := 9) hx hb hts inX3_tell_X3 hown hK hP 0 rfl rfl 4 (by decide) (hts (Cond.fieldLink RX3 36 "PortRooms$Holdings" "count" "I") (wm_t (wm_l (wm_i 1 rfl)))) (fun _ h9 => h9) rfl dX3_tell_5 ?_
  refine lv_iload_n hx hb dX3_tell_8 rfl (lv_at hl 1 rfl) ?_
  refine va_iast hx hb hK hP hD hS 1 0 rfl rfl (i_in (by omega) (by omega)) dX3_tell_9 (fun H locs => ?_)
  clear hP hD hS
  intro hP hD hS
  replace hP : va_P D vwCl [(oC3 ad hn), (aI cI (ad 23) 40 (upd ho hn.toNatClampNeg o)), (aI cI (ad 24) 40 hc), (aI cI (ad 25) 40 hp), (aI cI (ad 26) 40 hs)] H := hP
  replace hD : va_D A [(oC3 ad hn), (aI cI (ad 23) 40 (upd ho hn.toNatClampNeg o)), (aI cI (ad 24) 40 hc), (aI cI (ad 25) 40 hp), (aI cI (ad 26) 40 hs)] := hD
  refine lv_aload_n hx hb dX3_tell_10 rfl (lv_at hl 0 rfl) ?_
  refine va_get (D := D) (ci := 3) (v := .ref (ad 24)) (C := RX3) (T := TX3) (N := 9) hx hb hts inX3_tell_X3 hown hK hP 0 rfl rfl 1 (by decide) (hts (Cond.fieldLink RX3 15 "PortRooms$Holdings" "company" "[I") (wm_t (wm_l (wm_i 2 rfl)))) (fun _ h9 => h9) rfl dX3_tell_11 ?_
  refine lv_aload_n hx hb dX3_tell_14 rfl (lv_at hl 0 rfl) ?_
  refine va_get (D := D) (ci := 3) (v := .int hn) (C := RX3) (T := TX3) (N := 9) hx hb hts inX3_tell_X3 hown hK hP 0 rfl rfl 4 (by decide) (hts (Cond.fieldLink RX3 36 "PortRooms$Holdings" "count" "I") (wm_t (wm_l (wm_i 1 rfl)))) (fun _ h9 => h9) rfl dX3_tell_15 ?_
  refine lv_iload_n hx hb dX3_tell_18 rfl (lv_at hl 2 rfl) ?_
  refine va_iast hx hb hK hP hD hS 2 0 rfl rfl (i_in (by omega) (by omega)) dX3_tell_19 (fun H locs => ?_)
  clear hP hD hS
  intro hP hD hS
  replace hP : va_P D vwCl [(oC3 ad hn), (aI cI (ad 23) 40 (upd ho hn.toNatClampNeg o)), (aI cI (ad 24) 40 (upd hc hn.toNatClampNeg k)), (aI cI (ad 25) 40 hp), (aI cI (ad 26) 40 hs)] H := hP
  replace hD : va_D A [(oC3 ad hn), (aI cI (ad 23) 40 (upd ho hn.toNatClampNeg o)), (aI cI (ad 24) 40 (upd hc hn.toNatClampNeg k)), (aI cI (ad 25) 40 hp), (aI cI (ad 26) 40 hs)] := hD
  refine lv_aload_n hx hb dX3_tell_20 rfl (lv_at hl 0 rfl) ?_
  refine va_get (D := D) (ci := 3) (v := .ref (ad 25)) (C := RX3) (T := TX3) (N := 9) hx hb hts inX3_tell_X3 hown hK hP 0 rfl rfl 2 (by decide) (hts (Cond.fieldLink RX3 18 "PortRooms$Holdings" "percentage" "[I") (wm_t (wm_l (wm_i 3 rfl)))) (fun _ h9 => h9) rfl dX3_tell_21 ?_
  refine lv_aload_n hx hb dX3_tell_24 rfl (lv_at hl 0 rfl) ?_
  refine va_get (D := D) (ci := 3) (v := .int hn) (C := RX3) (T := TX3) (N := 9) hx hb hts inX3_tell_X3 hown hK hP 0 rfl rfl 4 (by decide) (hts (Cond.fieldLink RX3 36 "PortRooms$Holdings" "count" "I") (wm_t (wm_l (wm_i 1 rfl)))) (fun _ h9 => h9) rfl dX3_tell_25 ?_
  refine lv_iload_n hx hb dX3_tell_28 rfl (lv_at hl 3 rfl) ?_
  refine va_iast hx hb hK hP hD hS 3 0 rfl rfl (i_in (by omega) (by omega)) dX3_tell_29 (fun H locs => ?_)
  clear hP hD hS
  intro hP hD hS
  replace hP : va_P D vwCl [(oC3 ad hn), (aI cI (ad 23) 40 (upd ho hn.toNatClampNeg o)), (aI cI (ad 24) 40 (upd hc hn.toNatClampNeg k)), (aI cI (ad 25) 40 (upd hp hn.toNatClampNeg q)), (aI cI (ad 26) 40 hs)] H := hP
  replace hD : va_D A [(oC3 ad hn), (aI cI (ad 23) 40 (upd ho hn.toNatClampNeg o)), (aI cI (ad 24) 40 (upd hc hn.toNatClampNeg k)), (aI cI (ad 25) 40 (upd hp hn.toNatClampNeg q)), (aI cI (ad 26) 40 hs)] := hD
  refine lv_aload_n hx hb dX3_tell_30 rfl (lv_at hl 0 rfl) ?_
  refine va_get (D := D) (ci := 3) (v := .ref (ad 26)) (C := RX3) (T := TX3) (N := 9) hx hb hts inX3_tell_X3 hown hK hP 0 rfl rfl 3 (by decide) (hts (Cond.fieldLink RX3 21 "PortRooms$Holdings" "since" "[I") (wm_t (wm_l (wm_i 4 rfl)))) (fun _ h9 => h9) rfl dX3_tell_31 ?_
  refine lv_aload_n hx hb dX3_tell_34 rfl (lv_at hl 0 rfl) ?_
  refine va_get (D := D) (ci := 3) (v := .int hn) (C := RX3) (T := TX3) (N := 9) hx hb hts inX3_tell_X3 hown hK hP 0 rfl rfl 4 (by decide) (hts (Cond.fieldLink RX3 36 "PortRooms$Holdings" "count" "I") (wm_t (wm_l (wm_i 1 rfl)))) (fun _ h9 => h9) rfl dX3_tell_35 ?_
  refine lv_iload hx hb dX3_tell_38 (lv_at hl 4 rfl) ?_
  refine va_iast hx hb hK hP hD hS 4 0 rfl rfl (i_in (by omega) (by omega)) dX3_tell_40 (fun H locs => ?_)
  clear hP hD hS
  intro hP hD hS
  replace hP : va_P D vwCl [(oC3 ad hn), (aI cI (ad 23) 40 (upd ho hn.toNatClampNeg o)), (aI cI (ad 24) 40 (upd hc hn.toNatClampNeg k)), (aI cI (ad 25) 40 (upd hp hn.toNatClampNeg q)), (aI cI (ad 26) 40 (upd hs hn.toNatClampNeg d))] H := hP
  replace hD : va_D A [(oC3 ad hn), (aI cI (ad 23) 40 (upd ho hn.toNatClampNeg o)), (aI cI (ad 24) 40 (upd hc hn.toNatClampNeg k)), (aI cI (ad 25) 40 (upd hp hn.toNatClampNeg q)), (aI cI (ad 26) 40 (upd hs hn.toNatClampNeg d))] := hD
  refine lv_aload_n hx hb dX3_tell_41 rfl (lv_at hl 0 rfl) ?_
  refine lv_dup hx hb dX3_tell_42 rfl ?_
  refine va_get (D := D) (ci := 3) (v := .int hn) (C := RX3) (T := TX3) (N := 9) hx hb hts inX3_tell_X3 hown hK hP 0 rfl rfl 4 (by decide) (hts (Cond.fieldLink RX3 36 "PortRooms$Holdings" "count" "I") (wm_t (wm_l (wm_i 1 rfl)))) (fun _ h9 => h9) rfl dX3_tell_43 ?_
  refine lv_iconst (v := 1) hx hb dX3_tell_46 (by decide) ?_
  refine lv_iadd hx hb dX3_tell_47 ?_
  refine lv_topi (fun v1 ev1 => ?_)
  try have tv1 : v1.toInt = hn.toInt + 1 := by rw [ev1]; exact (i_add (x := hn) (y := (1 : Int32)) (by rw [k1]; omega) (by rw [k1]; omega)).trans (by rw [k1])
  refine va_put (D := D) (ci := 3) (v := .int v1) (ty := .int) (C := RX3) (T := TX3) (N := 9) hx hb hts inX3_tell_X3 tyX3 tyX3_ok nmX3 hown hK hP hD hS 0 rfl rfl 4 (by decide) (hts (Cond.fieldLink RX3 36 "PortRooms$Holdings" "count" "I") (wm_t (wm_l (wm_i 1 rfl)))) (fun _ h9 => h9) rfl (tyX3_ok 4 (by decide)) rfl rfl (Nat.le_of_ble_eq_true rfl) dX3_tell_48 (fun H locs => ?_)
  clear hP hD hS
  intro hP hD hS
  replace hP : va_P D vwCl [(oC3 ad v1), (aI cI (ad 23) 40 (upd ho hn.toNatClampNeg o)), (aI cI (ad 24) 40 (upd hc hn.toNatClampNeg k)), (aI cI (ad 25) 40 (upd hp hn.toNatClampNeg q)), (aI cI (ad 26) 40 (upd hs hn.toNatClampNeg d))] H := hP
  replace hD : va_D A [(oC3 ad v1), (aI cI (ad 23) 40 (upd ho hn.toNatClampNeg o)), (aI cI (ad 24) 40 (upd hc hn.toNatClampNeg k)), (aI cI (ad 25) 40 (upd hp hn.toNatClampNeg q)), (aI cI (ad 26) 40 (upd hs hn.toNatClampNeg d))] := hD
  refine lv_aload_n hx hb dX3_tell_51 rfl (lv_at hl 0 rfl) ?_
  refine va_get (D := D) (ci := 3) (v := .int v1) (C := RX3) (T := TX3) (N := 9) hx hb hts inX3_tell_X3 hown hK hP 0 rfl rfl 4 (by decide) (hts (Cond.fieldLink RX3 36 "PortRooms$Holdings" "count" "I") (wm_t (wm_l (wm_i 1 rfl)))) (fun _ h9 => h9) rfl dX3_tell_52 ?_
  subst ev1
  have hP9 := hP
  have hD9 := hD
  exact W.iret (v := hn + 1) hx hb hr (fun t ht hW => ⟨⟨hn + 1, (), rfl, rfl, by rw [ht]; exact hP9, va_K.moved hW.alike hK, hD9⟩, hS.F ht⟩) hS.2.2 dX3_tell_55

set_option maxHeartbeats 4000000 in
set_option maxRecDepth 100000 in
theorem ct_X1_tell (l : Launch) (D : va_G) (cI cY cJ cQ : ClassId) (sz : Nat) (ad : Nat → Nat) (cn : Int32) (fo wo : Nat → Int32) (o : Int32) (w : Int32)  (h1 : 0 ≤ cn.toInt) (h2 : cn.toInt < 12)  : Met l yX1_tell wsX1_tell ({ frames := 0, cells := 0, slots := 0, locals := 0 }) (cPre D (ty4 cI cY cJ cQ) [(oC1 ad cn), (aI cI (ad 31) 12 fo), (aI cI (ad 32) 12 wo)] sz [.ref (ad 3), .int o, .int w]) (va_Qi (fun (r : Int32) (u : Unit) => r = cn + 1 - 1) (cB D (ty4 cI cY cJ cQ) (fun (u : Unit) => [(oC1 ad (cn + 1)), (aI cI (ad 31) 12 (upd fo cn.toNatClampNeg o)), (aI cI (ad 32) 12 (upd wo cn.toNatClampNeg w))]) (va_A [(oC1 ad cn), (aI cI (ad 31) 12 fo), (aI cI (ad 32) 12 wo)] sz)) (va_A [(oC1 ad cn), (aI cI (ad 31) 12 fo), (aI cI (ad 32) 12 wo)] sz)) 0 0 (va_A [(oC1 ad cn), (aI cI (ad 31) 12 fo), (aI cI (ad 32) 12 wo)] sz) := by
  refine Met.ofW (cc := cX1_tell) (maxL := 3) (ret := (some .int)) (by decide) rfl ?_
  intro p e s m args below meth c s₁ B hml hv
  obtain ⟨rfl, hsz, hP, hK, hD0, hN⟩ := hv
  have hx := B.exec
  have hb := B.bytes
  have hr := B.returns
  have hts := atoms_spec (ws := wsX1_tell) B.pre
  have hown : s.vm.findClass RX1 = some m.cls := findClass_of_methodNamed B.named
  have hlocks := B.notSynchronized
  subst hsz
  have hD := hD0.self (sz := s.heap.size)
  generalize hAe : va_A [(oC1 ad cn), (aI cI (ad 31) 12 fo), (aI cI (ad 32) 12 wo)] s.heap.size = A at hD ⊢
  have hA : ∀ q : Nat, s.heap.size ≤ q → A q := fun q h => by rw [← hAe]; exact Or.inr h
  have hS : va_S A s.heap s.heap [] := va_S.rf
  have hP : va_P D vwCl [(oC1 ad cn), (aI cI (ad 31) 12 fo), (aI cI (ad 32) 12 wo)] s.heap := hP
  have hl := lv_entry ([.ref (ad 3), .int o, .int w]) (n := 3) (Nat.le_of_ble_eq_true rfl)
  rw [lg_entry_eq]
  generalize (lg_sl ([.ref (ad 3), .int o, .int w]) ++ List.replicate (3 - (lg_sl ([.ref (ad 3), .int o, .int w])).length) Slot.unset).toArray = ls at hl ⊢
  have hl : lv_has ls 3 [(0, .ref (ad 3)), (1, .int o), (2, .int w)] := hl
  have k1 : (1 : Int32).toInt = 1 := by decide
  refine lv_aload_n hx hb dX1_tell_0 rfl (lv_at hl 0 rfl) ?_
  refine va_get (D := D) (ci := 1) (v := .ref (ad 31)) (C := RX1) (T := TX1) (N := 6) hx hb hts inX1_tell_X1 hown hK hP 0 rfl rfl 0 (by decide) (hts (Cond.fieldLink RX1 9 "PortRooms$Crates" "firstOwner" "[I") (wm_t (wm_l (wm_i 0 rfl)))) (fun _ h9 => h9) rfl dX1_tell_1 ?_
  refine lv_aload_n hx hb dX1_tell_4 rfl (lv_at hl 0 rfl) ?_
  refine va_get (D := D) (ci := 1) (v := .int cn) (C := RX1) (T := TX1) (N := 6) hx hb hts inX1_tell_X1 hown hK hP 0 rfl rfl 3 (by decide) (hts (Cond.fieldLink RX1 35 "PortRooms$Crates" "count" "I") (wm_t (wm_l (wm_i 1 rfl)))) (fun _ h9 => h9) rfl dX1_tell_5 ?_
  refine lv_iload_n hx hb dX1_tell_8 rfl (lv_at hl 1 rfl) ?_
  refine va_iast hx hb hK hP hD hS 1 0 rfl rfl (i_in (by omega) (by omega)) dX1_tell_9 (fun H locs => ?_)
  clear hP hD hS
  intro hP hD hS
  replace hP : va_P D vwCl [(oC1 ad cn), (aI cI (ad 31) 12 (upd fo cn.toNatClampNeg o)), (aI cI (ad 32) 12 wo)] H := hP
  replace hD : va_D A [(oC1 ad cn), (aI cI (ad 31) 12 (upd fo cn.toNatClampNeg o)), (aI cI (ad 32) 12 wo)] := hD
  refine lv_aload_n hx hb dX1_tell_10 rfl (lv_at hl 0 rfl) ?_
  refine va_get (D := D) (ci := 1) (v := .ref (ad 32)) (C := RX1) (T := TX1) (N := 6) hx hb hts inX1_tell_X1 hown hK hP 0 rfl rfl 1 (by decide) (hts (Cond.fieldLink RX1 15 "PortRooms$Crates" "worth" "[I") (wm_t (wm_l (wm_i 2 rfl)))) (fun _ h9 => h9) rfl dX1_tell_11 ?_
  refine lv_aload_n hx hb dX1_tell_14 rfl (lv_at hl 0 rfl) ?_
  refine va_get (D := D) (ci := 1) (v := .int cn) (C := RX1) (T := TX1) (N := 6) hx hb hts inX1_tell_X1 hown hK hP 0 rfl rfl 3 (by decide) (hts (Cond.fieldLink RX1 35 "PortRooms$Crates" "count" "I") (wm_t (wm_l (wm_i 1 rfl)))) (fun _ h9 => h9) rfl dX1_tell_15 ?_
  refine lv_iload_n hx hb dX1_tell_18 rfl (lv_at hl 2 rfl) ?_
  refine va_iast hx hb hK hP hD hS 2 0 rfl rfl (i_in (by omega) (by omega)) dX1_tell_19 (fun H locs => ?_)
  clear hP hD hS
  intro hP hD hS
  replace hP : va_P D vwCl [(oC1 ad cn), (aI cI (ad 31) 12 (upd fo cn.toNatClampNeg o)), (aI cI (ad 32) 12 (upd wo cn.toNatClampNeg w))] H := hP
  replace hD : va_D A [(oC1 ad cn), (aI cI (ad 31) 12 (upd fo cn.toNatClampNeg o)), (aI cI (ad 32) 12 (upd wo cn.toNatClampNeg w))] := hD
  refine lv_aload_n hx hb dX1_tell_20 rfl (lv_at hl 0 rfl) ?_
  refine lv_dup hx hb dX1_tell_21 rfl ?_
  refine va_get (D := D) (ci := 1) (v := .int cn) (C := RX1) (T := TX1) (N := 6) hx hb hts inX1_tell_X1 hown hK hP 0 rfl rfl 3 (by decide) (hts (Cond.fieldLink RX1 35 "PortRooms$Crates" "count" "I") (wm_t (wm_l (wm_i 1 rfl)))) (fun _ h9 => h9) rfl dX1_tell_22 ?_
  refine lv_iconst (v := 1) hx hb dX1_tell_25 (by decide) ?_
  refine lv_iadd hx hb dX1_tell_26 ?_
  refine lv_topi (fun v1 ev1 => ?_)
  try have tv1 : v1.toInt = cn.toInt + 1 := by rw [ev1]; exact (i_add (x := cn) (y := (1 : Int32)) (by rw [k1]; omega) (by rw [k1]; omega)).trans (by rw [k1])
  refine va_put (D := D) (ci := 1) (v := .int v1) (ty := .int) (C := RX1) (T := TX1) (N := 6) hx hb hts inX1_tell_X1 tyX1 tyX1_ok nmX1 hown hK hP hD hS 0 rfl rfl 3 (by decide) (hts (Cond.fieldLink RX1 35 "PortRooms$Crates" "count" "I") (wm_t (wm_l (wm_i 1 rfl)))) (fun _ h9 => h9) rfl (tyX1_ok 3 (by decide)) rfl rfl (Nat.le_of_ble_eq_true rfl) dX1_tell_27 (fun H locs => ?_)
  clear hP hD hS
  intro hP hD hS
  replace hP : va_P D vwCl [(oC1 ad v1), (aI cI (ad 31) 12 (upd fo cn.toNatClampNeg o)), (aI cI (ad 32) 12 (upd wo cn.toNatClampNeg w))] H := hP
  replace hD : va_D A [(oC1 ad v1), (aI cI (ad 31) 12 (upd fo cn.toNatClampNeg o)), (aI cI (ad 32) 12 (upd wo cn.toNatClampNeg w))] := hD
  refine lv_aload_n hx hb dX1_tell_30 rfl (lv_at hl 0 rfl) ?_
  refine va_get (D := D) (ci := 1) (v := .int v1) (C := RX1) (T := TX1) (N := 6) hx hb hts inX1_tell_X1 hown hK hP 0 rfl rfl 3 (by decide) (hts (Cond.fieldLink RX1 35 "PortRooms$Crates" "count" "I") (wm_t (wm_l (wm_i 1 rfl)))) (fun _ h9 => h9) rfl dX1_tell_31 ?_
  refine lv_iconst (v := 1) hx hb dX1_tell_34 (by decide) ?_
  refine lv_isub hx hb dX1_tell_35 ?_
  refine lv_topi (fun v2 ev2 => ?_)
  try have tv2 : v2.toInt = v1.toInt - 1 := by rw [ev2]; exact (i_sub (x := v1) (y := (1 : Int32)) (by rw [k1]; omega) (by rw [k1]; omega)).trans (by rw [k1])
  subst ev1
  subst ev2
  have hP9 := hP
  have hD9 := hD
  exact W.iret (v := (cn + 1) - 1) hx hb hr (fun t ht hW => ⟨⟨(cn + 1) - 1, (), rfl, rfl, by rw [ht]; exact hP9, va_K.moved hW.alike hK, hD9⟩, hS.F ht⟩) hS.2.2 dX1_tell_36

set_option maxHeartbeats 4000000 in
set_option maxRecDepth 100000 in
theorem ct_X8_tell (l : Launch) (D : va_G) (cI cY cJ cQ : ClassId) (sz : Nat) (ad : Nat → Nat) (gn : Int32) (gk gs gd ge : Nat → Int32) (k : Int32) (q : Int32) (a : Int32) (b : Int32)  (h1 : 0 ≤ gn.toInt) (h2 : gn.toInt < 40)  : Met l yX8_tell wsX8_tell ({ frames := 0, cells := 0, slots := 0, locals := 0 }) (cPre D (ty4 cI cY cJ cQ) [(oC8 ad gn), (aI cI (ad 42) 40 gk), (aI cI (ad 43) 40 gs), (aI cI (ad 44) 40 gd), (aI cI (ad 45) 40 ge)] sz [.ref (ad 5), .int k, .int q, .int a, .int b]) (va_Qi (fun (r : Int32) (u : Unit) => r = gn + 1 - 1) (cB D (ty4 cI cY cJ cQ) (fun (u : Unit) => [(oC8 ad (gn + 1)), (aI cI (ad 42) 40 (upd gk gn.toNatClampNeg k)), (aI cI (ad 43) 40 (upd gs gn.toNatClampNeg q)), (aI cI (ad 44) 40 (upd gd gn.toNatClampNeg a)), (aI cI (ad 45) 40 (upd ge gn.toNatClampNeg b))]) (va_A [(oC8 ad gn), (aI cI (ad 42) 40 gk), (aI cI (ad 43) 40 gs), (aI cI (ad 44) 40 gd), (aI cI (ad 45) 40 ge)] sz)) (va_A [(oC8 ad gn), (aI cI (ad 42) 40 gk), (aI cI (ad 43) 40 gs), (aI cI (ad 44) 40 gd), (aI cI (ad 45) 40 ge)] sz)) 0 0 (va_A [(oC8 ad gn), (aI cI (ad 42) 40 gk), (aI cI (ad 43) 40 gs), (aI cI (ad 44) 40 gd), (aI cI (ad 45) 40 ge)] sz) := by
  refine Met.ofW (cc := cX8_tell) (maxL := 5) (ret := (some .int)) (by decide) rfl ?_
  intro p e s m args below meth c s₁ B hml hv
  obtain ⟨rfl, hsz, hP, hK, hD0, hN⟩ := hv
  have hx := B.exec
  have hb := B.bytes
  have hr := B.returns
  have hts := atoms_spec (ws := wsX8_tell) B.pre
  have hown : s.vm.findClass RX8 = some m.cls := findClass_of_methodNamed B.named
  have hlocks := B.notSynchronized
  subst hsz
  have hD := hD0.self (sz := s.heap.size)
  generalize hAe : va_A [(oC8 ad gn), (aI cI (ad 42) 40 gk), (aI cI (ad 43) 40 gs), (aI cI (ad 44) 40 gd), (aI cI (ad 45) 40 ge)] s.heap.size = A at hD ⊢
  have hA : ∀ q : Nat, s.heap.size ≤ q → A q := fun q h => by rw [← hAe]; exact Or.inr h
  have hS : va_S A s.heap s.heap [] := va_S.rf
  have hP : va_P D vwCl [(oC8 ad gn), (aI cI (ad 42) 40 gk), (aI cI (ad 43) 40 gs), (aI cI (ad 44) 40 gd), (aI cI (ad 45) 40 ge)] s.heap := hP
  have hl := lv_entry ([.ref (ad 5), .int k, .int q, .int a, .int b]) (n := 5) (Nat.le_of_ble_eq_true rfl)
  rw [lg_entry_eq]
  generalize (lg_sl ([.ref (ad 5), .int k, .int q, .int a, .int b]) ++ List.replicate (5 - (lg_sl ([.ref (ad 5), .int k, .int q, .int a, .int b])).length) Slot.unset).toArray = ls at hl ⊢
  have hl : lv_has ls 5 [(0, .ref (ad 5)), (1, .int k), (2, .int q), (3, .int a), (4, .int b)] := hl
  have k1 : (1 : Int32).toInt = 1 := by decide
  refine lv_aload_n hx hb dX8_tell_0 rfl (lv_at hl 0 rfl) ?_
  refine va_get (D := D) (ci := 8) (v := .ref (ad 42)) (C := RX8) (T := TX8) (N := 6) hx hb hts inX8_tell_X8 hown hK hP 0 rfl rfl 0 (by decide) (hts (Cond.fieldLink RX8 9 "PortRooms$Pledges" "crate" "[I") (wm_t (wm_l (wm_i 0 rfl)))) (fun _ h9 => h9) rfl dX8_tell_1 ?_
  refine lv_aload_n hx hb dX8_tell_4 rfl (lv_at hl 0 rfl) ?_
  refine va_get (D := D) (ci := 8) (v := .int gn) (C := RX8) (T := TX8) (N := 6) hx hb hts inX8_tell_X8 hown hK hP 0 rfl rfl 4 (by decide) (hts (Cond.fieldLink RX8 27 "PortRooms$Pledges" "count" "I") (wm_t (wm_l (wm_i 1 rfl)))) (fun _ h9 => h9) rfl dX8_tell_5 ?_
  refine lv_iload_n hx hb dX8_tell_8 rfl (lv_at hl 1 rfl) ?_
  refine va_iast hx hb hK hP hD hS 1 0 rfl rfl (i_in (by omega) (by omega)) dX8_tell_9 (fun H locs => ?_)
  clear hP hD hS
  intro hP hD hS
  replace hP : va_P D vwCl [(oC8 ad gn), (aI cI (ad 42) 40 (upd gk gn.toNatClampNeg k)), (aI cI (ad 43) 40 gs), (aI cI (ad 44) 40 gd), (aI cI (ad 45) 40 ge)] H := hP
  replace hD : va_D A [(oC8 ad gn), (aI cI (ad 42) 40 (upd gk gn.toNatClampNeg k)), (aI cI (ad 43) 40 gs), (aI cI (ad 44) 40 gd), (aI cI (ad 45) 40 ge)] := hD
  refine lv_aload_n hx hb dX8_tell_10 rfl (lv_at hl 0 rfl) ?_
  refine va_get (D := D) (ci := 8) (v := .ref (ad 43)) (C := RX8) (T := TX8) (N := 6) hx hb hts inX8_tell_X8 hown hK hP 0 rfl rfl 1 (by decide) (hts (Cond.fieldLink RX8 15 "PortRooms$Pledges" "sum" "[I") (wm_t (wm_l (wm_i 2 rfl)))) (fun _ h9 => h9) rfl dX8_tell_11 ?_
  refine lv_aload_n hx hb dX8_tell_14 rfl (lv_at hl 0 rfl) ?_
  refine va_get (D := D) (ci := 8) (v := .int gn) (C := RX8) (T := TX8) (N := 6) hx hb hts inX8_tell_X8 hown hK hP 0 rfl rfl 4 (by decide) (hts (Cond.fieldLink RX8 27 "PortRooms$Pledges" "count" "I") (wm_t (wm_l (wm_i 1 rfl)))) (fun _ h9 => h9) rfl dX8_tell_15 ?_
  refine lv_iload_n hx hb dX8_tell_18 rfl (lv_at hl 2 rfl) ?_
  refine va_iast hx hb hK hP hD hS 2 0 rfl rfl (i_in (by omega) (by omega)) dX8_tell_19 (fun H locs => ?_)
  clear hP hD hS
  intro hP hD hS
  replace hP : va_P D vwCl [(oC8 ad gn), (aI cI (ad 42) 40 (upd gk gn.toNatClampNeg k)), (aI cI (ad 43) 40 (upd gs gn.toNatClampNeg q)), (aI cI (ad 44) 40 gd), (aI cI (ad 45) 40 ge)] H := hP
  replace hD : va_D A [(oC8 ad gn), (aI cI (ad 42) 40 (upd gk gn.toNatClampNeg k)), (aI cI (ad 43) 40 (upd gs gn.toNatClampNeg q)), (aI cI (ad 44) 40 gd), (aI cI (ad 45) 40 ge)] := hD
  refine lv_aload_n hx hb dX8_tell_20 rfl (lv_at hl 0 rfl) ?_
  refine va_get (D := D) (ci := 8) (v := .ref (ad 44)) (C := RX8) (T := TX8) (N := 6) hx hb hts inX8_tell_X8 hown hK hP 0 rfl rfl 2 (by decide) (hts (Cond.fieldLink RX8 18 "PortRooms$Pledges" "said" "[I") (wm_t (wm_l (wm_i 3 rfl)))) (fun _ h9 => h9) rfl dX8_tell_21 ?_
  refine lv_aload_n hx hb dX8_tell_24 rfl (lv_at hl 0 rfl) ?_
  refine va_get (D := D) (ci := 8) (v := .int gn) (C := RX8) (T := TX8) (N := 6) hx hb hts inX8_tell_X8 hown hK hP 0 rfl rfl 4 (by decide) (hts (Cond.fieldLink RX8 27 "PortRooms$Pledges" "count" "I") (wm_t (wm_l (wm_i 1 rfl)))) (fun _ h9 => h9) rfl dX8_tell_25 ?_
  refine lv_iload_n hx hb dX8_tell_28 rfl (lv_at hl 3 rfl) ?_
  refine va_iast hx hb hK hP hD hS 3 0 rfl rfl (i_in (by omega) (by omega)) dX8_tell_29 (fun H locs => ?_)
  clear hP hD hS
  intro hP hD hS
  replace hP : va_P D vwCl [(oC8 ad gn), (aI cI (ad 42) 40 (upd gk gn.toNatClampNeg k)), (aI cI (ad 43) 40 (upd gs gn.toNatClampNeg q)), (aI cI (ad 44) 40 (upd gd gn.toNatClampNeg a)), (aI cI (ad 45) 40 ge)] H := hP
  replace hD : va_D A [(oC8 ad gn), (aI cI (ad 42) 40 (upd gk gn.toNatClampNeg k)), (aI cI (ad 43) 40 (upd gs gn.toNatClampNeg q)), (aI cI (ad 44) 40 (upd gd gn.toNatClampNeg a)), (aI cI (ad 45) 40 ge)] := hD
  refine lv_aload_n hx hb dX8_tell_30 rfl (lv_at hl 0 rfl) ?_
  refine va_get (D := D) (ci := 8) (v := .ref (ad 45)) (C := RX8) (T := TX8) (N := 6) hx hb hts inX8_tell_X8 hown hK hP 0 rfl rfl 3 (by decide) (hts (Cond.fieldLink RX8 21 "PortRooms$Pledges" "filed" "[I") (wm_t (wm_l (wm_i 4 rfl)))) (fun _ h9 => h9) rfl dX8_tell_31 ?_
  refine lv_aload_n hx hb dX8_tell_34 rfl (lv_at hl 0 rfl) ?_
  refine va_get (D := D) (ci := 8) (v := .int gn) (C := RX8) (T := TX8) (N := 6) hx hb hts inX8_tell_X8 hown hK hP 0 rfl rfl 4 (by decide) (hts (Cond.fieldLink RX8 27 "PortRooms$Pledges" "count" "I") (wm_t (wm_l (wm_i 1 rfl)))) (fun _ h9 => h9) rfl dX8_tell_35 ?_
  refine lv_iload hx hb dX8_tell_38 (lv_at hl 4 rfl) ?_
  refine va_iast hx hb hK hP hD hS 4 0 rfl rfl (i_in (by omega) (by omega)) dX8_tell_40 (fun H locs => ?_)
  clear hP hD hS
  intro hP hD hS
  replace hP : va_P D vwCl [(oC8 ad gn), (aI cI (ad 42) 40 (upd gk gn.toNatClampNeg k)), (aI cI (ad 43) 40 (upd gs gn.toNatClampNeg q)), (aI cI (ad 44) 40 (upd gd gn.toNatClampNeg a)), (aI cI (ad 45) 40 (upd ge gn.toNatClampNeg b))] H := hP
  replace hD : va_D A [(oC8 ad gn), (aI cI (ad 42) 40 (upd gk gn.toNatClampNeg k)), (aI cI (ad 43) 40 (upd gs gn.toNatClampNeg q)), (aI cI (ad 44) 40 (upd gd gn.toNatClampNeg a)), (aI cI (ad 45) 40 (upd ge gn.toNatClampNeg b))] := hD
  refine lv_aload_n hx hb dX8_tell_41 rfl (lv_at hl 0 rfl) ?_
  refine lv_dup hx hb dX8_tell_42 rfl ?_
  refine va_get (D := D) (ci := 8) (v := .int gn) (C := RX8) (T := TX8) (N := 6) hx hb hts inX8_tell_X8 hown hK hP 0 rfl rfl 4 (by decide) (hts (Cond.fieldLink RX8 27 "PortRooms$Pledges" "count" "I") (wm_t (wm_l (wm_i 1 rfl)))) (fun _ h9 => h9) rfl dX8_tell_43 ?_
  refine lv_iconst (v := 1) hx hb dX8_tell_46 (by decide) ?_
  refine lv_iadd hx hb dX8_tell_47 ?_
  refine lv_topi (fun v1 ev1 => ?_)
  try have tv1 : v1.toInt = gn.toInt + 1 := by rw [ev1]; exact (i_add (x := gn) (y := (1 : Int32)) (by rw [k1]; omega) (by rw [k1]; omega)).trans (by rw [k1])
  refine va_put (D := D) (ci := 8) (v := .int v1) (ty := .int) (C := RX8) (T := TX8) (N := 6) hx hb hts inX8_tell_X8 tyX8 tyX8_ok nmX8 hown hK hP hD hS 0 rfl rfl 4 (by decide) (hts (Cond.fieldLink RX8 27 "PortRooms$Pledges" "count" "I") (wm_t (wm_l (wm_i 1 rfl)))) (fun _ h9 => h9) rfl (tyX8_ok 4 (by decide)) rfl rfl (Nat.le_of_ble_eq_true rfl) dX8_tell_48 (fun H locs => ?_)
  clear hP hD hS
  intro hP hD hS
  replace hP : va_P D vwCl [(oC8 ad v1), (aI cI (ad 42) 40 (upd gk gn.toNatClampNeg k)), (aI cI (ad 43) 40 (upd gs gn.toNatClampNeg q)), (aI cI (ad 44) 40 (upd gd gn.toNatClampNeg a)), (aI cI (ad 45) 40 (upd ge gn.toNatClampNeg b))] H := hP
  replace hD : va_D A [(oC8 ad v1), (aI cI (ad 42) 40 (upd gk gn.toNatClampNeg k)), (aI cI (ad 43) 40 (upd gs gn.toNatClampNeg q)), (aI cI (ad 44) 40 (upd gd gn.toNatClampNeg a)), (aI cI (ad 45) 40 (upd ge gn.toNatClampNeg b))] := hD
  refine lv_aload_n hx hb dX8_tell_51 rfl (lv_at hl 0 rfl) ?_
  refine va_get (D := D) (ci := 8) (v := .int v1) (C := RX8) (T := TX8) (N := 6) hx hb hts inX8_tell_X8 hown hK hP 0 rfl rfl 4 (by decide) (hts (Cond.fieldLink RX8 27 "PortRooms$Pledges" "count" "I") (wm_t (wm_l (wm_i 1 rfl)))) (fun _ h9 => h9) rfl dX8_tell_52 ?_
  refine lv_iconst (v := 1) hx hb dX8_tell_55 (by decide) ?_
  refine lv_isub hx hb dX8_tell_56 ?_
  refine lv_topi (fun v2 ev2 => ?_)
  try have tv2 : v2.toInt = v1.toInt - 1 := by rw [ev2]; exact (i_sub (x := v1) (y := (1 : Int32)) (by rw [k1]; omega) (by rw [k1]; omega)).trans (by rw [k1])
  subst ev1
  subst ev2
  have hP9 := hP
  have hD9 := hD
  exact W.iret (v := (gn + 1) - 1) hx hb hr (fun t ht hW => ⟨⟨(gn + 1) - 1, (), rfl, rfl, by rw [ht]; exact hP9, va_K.moved hW.alike hK, hD9⟩, hS.F ht⟩) hS.2.2 dX8_tell_57

set_option maxHeartbeats 4000000 in
set_option maxRecDepth 100000 in
theorem ct_X0_tell (l : Launch) (D : va_G) (cI cY cJ cQ : ClassId) (sz : Nat) (ad : Nat → Nat) (an : Int32) (ak ah ay az : Nat → Int32) (k : Int32) (w : Int32) (d : Int32) (n : Int32)  (h1 : 0 ≤ an.toInt) (h2 : an.toInt < 60)  : Met l yX0_tell wsX0_tell ({ frames := 0, cells := 0, slots := 0, locals := 0 }) (cPre D (ty4 cI cY cJ cQ) [(oC0 ad an), (aI cI (ad 54) 60 ak), (aI cI (ad 55) 60 ah), (aI cI (ad 56) 60 ay), (aI cI (ad 57) 60 az)] sz [.ref (ad 7), .int k, .int w, .int d, .int n]) (va_Qi (fun (r : Int32) (u : Unit) => r = an + 1) (cB D (ty4 cI cY cJ cQ) (fun (u : Unit) => [(oC0 ad (an + 1)), (aI cI (ad 54) 60 (upd ak an.toNatClampNeg k)), (aI cI (ad 55) 60 (upd ah an.toNatClampNeg w)), (aI cI (ad 56) 60 (upd ay an.toNatClampNeg d)), (aI cI (ad 57) 60 (upd az an.toNatClampNeg n))]) (va_A [(oC0 ad an), (aI cI (ad 54) 60 ak), (aI cI (ad 55) 60 ah), (aI cI (ad 56) 60 ay), (aI cI (ad 57) 60 az)] sz)) (va_A [(oC0 ad an), (aI cI (ad 54) 60 ak), (aI cI (ad 55) 60 ah), (aI cI (ad 56) 60 ay), (aI cI (ad 57) 60 az)] sz)) 0 0 (va_A [(oC0 ad an), (aI cI (ad 54) 60 ak), (aI cI (ad 55) 60 ah), (aI cI (ad 56) 60 ay), (aI cI (ad 57) 60 az)] sz) := by
  refine Met.ofW (cc := cX0_tell) (maxL := 5) (ret := (some .int)) (by decide) rfl ?_
  intro p e s m args below meth c s₁ B hml hv
  obtain ⟨rfl, hsz, hP, hK, hD0, hN⟩ := hv
  have hx := B.exec
  have hb := B.bytes
  have hr := B.returns
  have hts := atoms_spec (ws := wsX0_tell) B.pre
  have hown : s.vm.findClass RX0 = some m.cls := findClass_of_methodNamed B.named
  have hlocks := B.notSynchronized
  subst hsz
  have hD := hD0.self (sz := s.heap.size)
  generalize hAe : va_A [(oC0 ad an), (aI cI (ad 54) 60 ak), (aI cI (ad 55) 60 ah), (aI cI (ad 56) 60 ay), (aI cI (ad 57) 60 az)] s.heap.size = A at hD ⊢
  have hA : ∀ q : Nat, s.heap.size ≤ q → A q := fun q h => by rw [← hAe]; exact Or.inr h
  have hS : va_S A s.heap s.heap [] := va_S.rf
  have hP : va_P D vwCl [(oC0 ad an), (aI cI (ad 54) 60 ak), (aI cI (ad 55) 60 ah), (aI cI (ad 56) 60 ay), (aI cI (ad 57) 60 az)] s.heap := hP
  have hl := lv_entry ([.ref (ad 7), .int k, .int w, .int d, .int n]) (n := 5) (Nat.le_of_ble_eq_true rfl)
  rw [lg_entry_eq]
  generalize (lg_sl ([.ref (ad 7), .int k, .int w, .int d, .int n]) ++ List.replicate (5 - (lg_sl ([.ref (ad 7), .int k, .int w, .int d, .int n])).length) Slot.unset).toArray = ls at hl ⊢
  have hl : lv_has ls 5 [(0, .ref (ad 7)), (1, .int k), (2, .int w), (3, .int d), (4, .int n)] := hl
  have k1 : (1 : Int32).toInt = 1 := by decide
  refine lv_aload_n hx hb dX0_tell_0 rfl (lv_at hl 0 rfl) ?_
  refine va_get (D := D) (ci := 0) (v := .ref (ad 54)) (C := RX0) (T := TX0) (N := 5) hx hb hts inX0_tell_X0 hown hK hP 0 rfl rfl 0 (by decide) (hts (Cond.fieldLink RX0 9 "PortRooms$Acts" "crate" "[I") (wm_t (wm_l (wm_i 0 rfl)))) (fun _ h9 => h9) rfl dX0_tell_1 ?_
  refine lv_aload_n hx hb dX0_tell_4 rfl (lv_at hl 0 rfl) ?_
  refine va_get (D := D) (ci := 0) (v := .int an) (C := RX0) (T := TX0) (N := 5) hx hb hts inX0_tell_X0 hown hK hP 0 rfl rfl 4 (by decide) (hts (Cond.fieldLink RX0 24 "PortRooms$Acts" "count" "I") (wm_t (wm_l (wm_i 1 rfl)))) (fun _ h9 => h9) rfl dX0_tell_5 ?_
  refine lv_iload_n hx hb dX0_tell_8 rfl (lv_at hl 1 rfl) ?_
  refine va_iast hx hb hK hP hD hS 1 0 rfl rfl (i_in (by omega) (by omega)) dX0_tell_9 (fun H locs => ?_)
  clear hP hD hS
  intro hP hD hS
  replace hP : va_P D vwCl [(oC0 ad an), (aI cI (ad 54) 60 (upd ak an.toNatClampNeg k)), (aI cI (ad 55) 60 ah), (aI cI (ad 56) 60 ay), (aI cI (ad 57) 60 az)] H := hP
  replace hD : va_D A [(oC0 ad an), (aI cI (ad 54) 60 (upd ak an.toNatClampNeg k)), (aI cI (ad 55) 60 ah), (aI cI (ad 56) 60 ay), (aI cI (ad 57) 60 az)] := hD
  refine lv_aload_n hx hb dX0_tell_10 rfl (lv_at hl 0 rfl) ?_
  refine va_get (D := D) (ci := 0) (v := .ref (ad 55)) (C := RX0) (T := TX0) (N := 5) hx hb hts inX0_tell_X0 hown hK hP 0 rfl rfl 1 (by decide) (hts (Cond.fieldLink RX0 15 "PortRooms$Acts" "what" "[I") (wm_t (wm_l (wm_i 2 rfl)))) (fun _ h9 => h9) rfl dX0_tell_11 ?_
  refine lv_aload_n hx hb dX0_tell_14 rfl (lv_at hl 0 rfl) ?_
  refine va_get (D := D) (ci := 0) (v := .int an) (C := RX0) (T := TX0) (N := 5) hx hb hts inX0_tell_X0 hown hK hP 0 rfl rfl 4 (by decide) (hts (Cond.fieldLink RX0 24 "PortRooms$Acts" "count" "I") (wm_t (wm_l (wm_i 1 rfl)))) (fun _ h9 => h9) rfl dX0_tell_15 ?_
  refine lv_iload_n hx hb dX0_tell_18 rfl (lv_at hl 2 rfl) ?_
  refine va_iast hx hb hK hP hD hS 2 0 rfl rfl (i_in (by omega) (by omega)) dX0_tell_19 (fun H locs => ?_)
  clear hP hD hS
  intro hP hD hS
  replace hP : va_P D vwCl [(oC0 ad an), (aI cI (ad 54) 60 (upd ak an.toNatClampNeg k)), (aI cI (ad 55) 60 (upd ah an.toNatClampNeg w)), (aI cI (ad 56) 60 ay), (aI cI (ad 57) 60 az)] H := hP
  replace hD : va_D A [(oC0 ad an), (aI cI (ad 54) 60 (upd ak an.toNatClampNeg k)), (aI cI (ad 55) 60 (upd ah an.toNatClampNeg w)), (aI cI (ad 56) 60 ay), (aI cI (ad 57) 60 az)] := hD
  refine lv_aload_n hx hb dX0_tell_20 rfl (lv_at hl 0 rfl) ?_
  refine va_get (D := D) (ci := 0) (v := .ref (ad 56)) (C := RX0) (T := TX0) (N := 5) hx hb hts inX0_tell_X0 hown hK hP 0 rfl rfl 2 (by decide) (hts (Cond.fieldLink RX0 18 "PortRooms$Acts" "day" "[I") (wm_t (wm_l (wm_i 3 rfl)))) (fun _ h9 => h9) rfl dX0_tell_21 ?_
  refine lv_aload_n hx hb dX0_tell_24 rfl (lv_at hl 0 rfl) ?_
  refine va_get (D := D) (ci := 0) (v := .int an) (C := RX0) (T := TX0) (N := 5) hx hb hts inX0_tell_X0 hown hK hP 0 rfl rfl 4 (by decide) (hts (Cond.fieldLink RX0 24 "PortRooms$Acts" "count" "I") (wm_t (wm_l (wm_i 1 rfl)))) (fun _ h9 => h9) rfl dX0_tell_25 ?_
  refine lv_iload_n hx hb dX0_tell_28 rfl (lv_at hl 3 rfl) ?_
  refine va_iast hx hb hK hP hD hS 3 0 rfl rfl (i_in (by omega) (by omega)) dX0_tell_29 (fun H locs => ?_)
  clear hP hD hS
  intro hP hD hS
  replace hP : va_P D vwCl [(oC0 ad an), (aI cI (ad 54) 60 (upd ak an.toNatClampNeg k)), (aI cI (ad 55) 60 (upd ah an.toNatClampNeg w)), (aI cI (ad 56) 60 (upd ay an.toNatClampNeg d)), (aI cI (ad 57) 60 az)] H := hP
  replace hD : va_D A [(oC0 ad an), (aI cI (ad 54) 60 (upd ak an.toNatClampNeg k)), (aI cI (ad 55) 60 (upd ah an.toNatClampNeg w)), (aI cI (ad 56) 60 (upd ay an.toNatClampNeg d)), (aI cI (ad 57) 60 az)] := hD
  refine lv_aload_n hx hb dX0_tell_30 rfl (lv_at hl 0 rfl) ?_
  refine va_get (D := D) (ci := 0) (v := .ref (ad 57)) (C := RX0) (T := TX0) (N := 5) hx hb hts inX0_tell_X0 hown hK hP 0 rfl rfl 3 (by decide) (hts (Cond.fieldLink RX0 21 "PortRooms$Acts" "days" "[I") (wm_t (wm_l (wm_i 4 rfl)))) (fun _ h9 => h9) rfl dX0_tell_31 ?_
  refine lv_aload_n hx hb dX0_tell_34 rfl (lv_at hl 0 rfl) ?_
  refine va_get (D := D) (ci := 0) (v := .int an) (C := RX0) (T := TX0) (N := 5) hx hb hts inX0_tell_X0 hown hK hP 0 rfl rfl 4 (by decide) (hts (Cond.fieldLink RX0 24 "PortRooms$Acts" "count" "I") (wm_t (wm_l (wm_i 1 rfl)))) (fun _ h9 => h9) rfl dX0_tell_35 ?_
  refine lv_iload hx hb dX0_tell_38 (lv_at hl 4 rfl) ?_
  refine va_iast hx hb hK hP hD hS 4 0 rfl rfl (i_in (by omega) (by omega)) dX0_tell_40 (fun H locs => ?_)
  clear hP hD hS
  intro hP hD hS
  replace hP : va_P D vwCl [(oC0 ad an), (aI cI (ad 54) 60 (upd ak an.toNatClampNeg k)), (aI cI (ad 55) 60 (upd ah an.toNatClampNeg w)), (aI cI (ad 56) 60 (upd ay an.toNatClampNeg d)), (aI cI (ad 57) 60 (upd az an.toNatClampNeg n))] H := hP
  replace hD : va_D A [(oC0 ad an), (aI cI (ad 54) 60 (upd ak an.toNatClampNeg k)), (aI cI (ad 55) 60 (upd ah an.toNatClampNeg w)), (aI cI (ad 56) 60 (upd ay an.toNatClampNeg d)), (aI cI (ad 57) 60 (upd az an.toNatClampNeg n))] := hD
  refine lv_aload_n hx hb dX0_tell_41 rfl (lv_at hl 0 rfl) ?_
  refine lv_dup hx hb dX0_tell_42 rfl ?_
  refine va_get (D := D) (ci := 0) (v := .int an) (C := RX0) (T := TX0) (N := 5) hx hb hts inX0_tell_X0 hown hK hP 0 rfl rfl 4 (by decide) (hts (Cond.fieldLink RX0 24 "PortRooms$Acts" "count" "I") (wm_t (wm_l (wm_i 1 rfl)))) (fun _ h9 => h9) rfl dX0_tell_43 ?_
  refine lv_iconst (v := 1) hx hb dX0_tell_46 (by decide) ?_
  refine lv_iadd hx hb dX0_tell_47 ?_
  refine lv_topi (fun v1 ev1 => ?_)
  try have tv1 : v1.toInt = an.toInt + 1 := by rw [ev1]; exact (i_add (x := an) (y := (1 : Int32)) (by rw [k1]; omega) (by rw [k1]; omega)).trans (by rw [k1])
  refine va_put (D := D) (ci := 0) (v := .int v1) (ty := .int) (C := RX0) (T := TX0) (N := 5) hx hb hts inX0_tell_X0 tyX0 tyX0_ok nmX0 hown hK hP hD hS 0 rfl rfl 4 (by decide) (hts (Cond.fieldLink RX0 24 "PortRooms$Acts" "count" "I") (wm_t (wm_l (wm_i 1 rfl)))) (fun _ h9 => h9) rfl (tyX0_ok 4 (by decide)) rfl rfl (Nat.le_of_ble_eq_true rfl) dX0_tell_48 (fun H locs => ?_)
  clear hP hD hS
  intro hP hD hS
  replace hP : va_P D vwCl [(oC0 ad v1), (aI cI (ad 54) 60 (upd ak an.toNatClampNeg k)), (aI cI (ad 55) 60 (upd ah an.toNatClampNeg w)), (aI cI (ad 56) 60 (upd ay an.toNatClampNeg d)), (aI cI (ad 57) 60 (upd az an.toNatClampNeg n))] H := hP
  replace hD : va_D A [(oC0 ad v1), (aI cI (ad 54) 60 (upd ak an.toNatClampNeg k)), (aI cI (ad 55) 60 (upd ah an.toNatClampNeg w)), (aI cI (ad 56) 60 (upd ay an.toNatClampNeg d)), (aI cI (ad 57) 60 (upd az an.toNatClampNeg n))] := hD
  refine lv_aload_n hx hb dX0_tell_51 rfl (lv_at hl 0 rfl) ?_
  refine va_get (D := D) (ci := 0) (v := .int v1) (C := RX0) (T := TX0) (N := 5) hx hb hts inX0_tell_X0 hown hK hP 0 rfl rfl 4 (by decide) (hts (Cond.fieldLink RX0 24 "PortRooms$Acts" "count" "I") (wm_t (wm_l (wm_i 1 rfl)))) (fun _ h9 => h9) rfl dX0_tell_52 ?_
  subst ev1
  have hP9 := hP
  have hD9 := hD
  exact W.iret (v := an + 1) hx hb hr (fun t ht hW => ⟨⟨an + 1, (), rfl, rfl, by rw [ht]; exact hP9, va_K.moved hW.alike hK, hD9⟩, hS.F ht⟩) hS.2.2 dX0_tell_55

set_option maxHeartbeats 4000000 in
set_option maxRecDepth 100000 in
theorem ct_X6_tell (l : Launch) (D : va_G) (cI cY cJ cQ : ClassId) (sz : Nat) (ad : Nat → Nat) (un : Int32) (uk uy uw um : Nat → Int32) (k : Int32) (d : Int32) (w : Int32) (q : Int32)  (h1 : 0 ≤ un.toInt) (h2 : un.toInt < 60)  : Met l yX6_tell wsX6_tell ({ frames := 0, cells := 0, slots := 0, locals := 0 }) (cPre D (ty4 cI cY cJ cQ) [(oC6 ad un), (aI cI (ad 59) 60 uk), (aI cI (ad 60) 60 uy), (aI cI (ad 61) 60 uw), (aI cI (ad 62) 60 um)] sz [.ref (ad 9), .int k, .int d, .int w, .int q]) (va_Qi (fun (r : Int32) (u : Unit) => r = un + 1) (cB D (ty4 cI cY cJ cQ) (fun (u : Unit) => [(oC6 ad (un + 1)), (aI cI (ad 59) 60 (upd uk un.toNatClampNeg k)), (aI cI (ad 60) 60 (upd uy un.toNatClampNeg d)), (aI cI (ad 61) 60 (upd uw un.toNatClampNeg w)), (aI cI (ad 62) 60 (upd um un.toNatClampNeg q))]) (va_A [(oC6 ad un), (aI cI (ad 59) 60 uk), (aI cI (ad 60) 60 uy), (aI cI (ad 61) 60 uw), (aI cI (ad 62) 60 um)] sz)) (va_A [(oC6 ad un), (aI cI (ad 59) 60 uk), (aI cI (ad 60) 60 uy), (aI cI (ad 61) 60 uw), (aI cI (ad 62) 60 um)] sz)) 0 0 (va_A [(oC6 ad un), (aI cI (ad 59) 60 uk), (aI cI (ad 60) 60 uy), (aI cI (ad 61) 60 uw), (aI cI (ad 62) 60 um)] sz) := by
  refine Met.ofW (cc := cX6_tell) (maxL := 5) (ret := (some .int)) (by decide) rfl ?_
  intro p e s m args below meth c s₁ B hml hv
  obtain ⟨rfl, hsz, hP, hK, hD0, hN⟩ := hv
  have hx := B.exec
  have hb := B.bytes
  have hr := B.returns
  have hts := atoms_spec (ws := wsX6_tell) B.pre
  have hown : s.vm.findClass RX6 = some m.cls := findClass_of_methodNamed B.named
  have hlocks := B.notSynchronized
  subst hsz
  have hD := hD0.self (sz := s.heap.size)
  generalize hAe : va_A [(oC6 ad un), (aI cI (ad 59) 60 uk), (aI cI (ad 60) 60 uy), (aI cI (ad 61) 60 uw), (aI cI (ad 62) 60 um)] s.heap.size = A at hD ⊢
  have hA : ∀ q : Nat, s.heap.size ≤ q → A q := fun q h => by rw [← hAe]; exact Or.inr h
  have hS : va_S A s.heap s.heap [] := va_S.rf
  have hP : va_P D vwCl [(oC6 ad un), (aI cI (ad 59) 60 uk), (aI cI (ad 60) 60 uy), (aI cI (ad 61) 60 uw), (aI cI (ad 62) 60 um)] s.heap := hP
  have hl := lv_entry ([.ref (ad 9), .int k, .int d, .int w, .int q]) (n := 5) (Nat.le_of_ble_eq_true rfl)
  rw [lg_entry_eq]
  generalize (lg_sl ([.ref (ad 9), .int k, .int d, .int w, .int q]) ++ List.replicate (5 - (lg_sl ([.ref (ad 9), .int k, .int d, .int w, .int q])).length) Slot.unset).toArray = ls at hl ⊢
  have hl : lv_has ls 5 [(0, .ref (ad 9)), (1, .int k), (2, .int d), (3, .int w), (4, .int q)] := hl
  have k1 : (1 : Int32).toInt = 1 := by decide
  refine lv_aload_n hx hb dX6_tell_0 rfl (lv_at hl 0 rfl) ?_
  refine va_get (D := D) (ci := 6) (v := .ref (ad 59)) (C := RX6) (T := TX6) (N := 5) hx hb hts inX6_tell_X6 hown hK hP 0 rfl rfl 0 (by decide) (hts (Cond.fieldLink RX6 9 "PortRooms$Openings" "crate" "[I") (wm_t (wm_l (wm_i 0 rfl)))) (fun _ h9 => h9) rfl dX6_tell_1 ?_
  refine lv_aload_n hx hb dX6_tell_4 rfl (lv_at hl 0 rfl) ?_
  refine va_get (D := D) (ci := 6) (v := .int un) (C := RX6) (T := TX6) (N := 5) hx hb hts inX6_tell_X6 hown hK hP 0 rfl rfl 4 (by decide) (hts (Cond.fieldLink RX6 24 "PortRooms$Openings" "count" "I") (wm_t (wm_l (wm_i 1 rfl)))) (fun _ h9 => h9) rfl dX6_tell_5 ?_
  refine lv_iload_n hx hb dX6_tell_8 rfl (lv_at hl 1 rfl) ?_
  refine va_iast hx hb hK hP hD hS 1 0 rfl rfl (i_in (by omega) (by omega)) dX6_tell_9 (fun H locs => ?_)
  clear hP hD hS
  intro hP hD hS
  replace hP : va_P D vwCl [(oC6 ad un), (aI cI (ad 59) 60 (upd uk un.toNatClampNeg k)), (aI cI (ad 60) 60 uy), (aI cI (ad 61) 60 uw), (aI cI (ad 62) 60 um)] H := hP
  replace hD : va_D A [(oC6 ad un), (aI cI (ad 59) 60 (upd uk un.toNatClampNeg k)), (aI cI (ad 60) 60 uy), (aI cI (ad 61) 60 uw), (aI cI (ad 62) 60 um)] := hD
  refine lv_aload_n hx hb dX6_tell_10 rfl (lv_at hl 0 rfl) ?_
  refine va_get (D := D) (ci := 6) (v := .ref (ad 60)) (C := RX6) (T := TX6) (N := 5) hx hb hts inX6_tell_X6 hown hK hP 0 rfl rfl 1 (by decide) (hts (Cond.fieldLink RX6 15 "PortRooms$Openings" "day" "[I") (wm_t (wm_l (wm_i 2 rfl)))) (fun _ h9 => h9) rfl dX6_tell_11 ?_
  refine lv_aload_n hx hb dX6_tell_14 rfl (lv_at hl 0 rfl) ?_
  refine va_get (D := D) (ci := 6) (v := .int un) (C := RX6) (T := TX6) (N := 5) hx hb hts inX6_tell_X6 hown hK hP 0 rfl rfl 4 (by decide) (hts (Cond.fieldLink RX6 24 "PortRooms$Openings" "count" "I") (wm_t (wm_l (wm_i 1 rfl)))) (fun _ h9 => h9) rfl dX6_tell_15 ?_
  refine lv_iload_n hx hb dX6_tell_18 rfl (lv_at hl 2 rfl) ?_
  refine va_iast hx hb hK hP hD hS 2 0 rfl rfl (i_in (by omega) (by omega)) dX6_tell_19 (fun H locs => ?_)
  clear hP hD hS
  intro hP hD hS
  replace hP : va_P D vwCl [(oC6 ad un), (aI cI (ad 59) 60 (upd uk un.toNatClampNeg k)), (aI cI (ad 60) 60 (upd uy un.toNatClampNeg d)), (aI cI (ad 61) 60 uw), (aI cI (ad 62) 60 um)] H := hP
  replace hD : va_D A [(oC6 ad un), (aI cI (ad 59) 60 (upd uk un.toNatClampNeg k)), (aI cI (ad 60) 60 (upd uy un.toNatClampNeg d)), (aI cI (ad 61) 60 uw), (aI cI (ad 62) 60 um)] := hD
  refine lv_aload_n hx hb dX6_tell_20 rfl (lv_at hl 0 rfl) ?_
  refine va_get (D := D) (ci := 6) (v := .ref (ad 61)) (C := RX6) (T := TX6) (N := 5) hx hb hts inX6_tell_X6 hown hK hP 0 rfl rfl 2 (by decide) (hts (Cond.fieldLink RX6 18 "PortRooms$Openings" "weight" "[I") (wm_t (wm_l (wm_i 3 rfl)))) (fun _ h9 => h9) rfl dX6_tell_21 ?_
  refine lv_aload_n hx hb dX6_tell_24 rfl (lv_at hl 0 rfl) ?_
  refine va_get (D := D) (ci := 6) (v := .int un) (C := RX6) (T := TX6) (N := 5) hx hb hts inX6_tell_X6 hown hK hP 0 rfl rfl 4 (by decide) (hts (Cond.fieldLink RX6 24 "PortRooms$Openings" "count" "I") (wm_t (wm_l (wm_i 1 rfl)))) (fun _ h9 => h9) rfl dX6_tell_25 ?_
  refine lv_iload_n hx hb dX6_tell_28 rfl (lv_at hl 3 rfl) ?_
  refine va_iast hx hb hK hP hD hS 3 0 rfl rfl (i_in (by omega) (by omega)) dX6_tell_29 (fun H locs => ?_)
  clear hP hD hS
  intro hP hD hS
  replace hP : va_P D vwCl [(oC6 ad un), (aI cI (ad 59) 60 (upd uk un.toNatClampNeg k)), (aI cI (ad 60) 60 (upd uy un.toNatClampNeg d)), (aI cI (ad 61) 60 (upd uw un.toNatClampNeg w)), (aI cI (ad 62) 60 um)] H := hP
  replace hD : va_D A [(oC6 ad un), (aI cI (ad 59) 60 (upd uk un.toNatClampNeg k)), (aI cI (ad 60) 60 (upd uy un.toNatClampNeg d)), (aI cI (ad 61) 60 (upd uw un.toNatClampNeg w)), (aI cI (ad 62) 60 um)] := hD
  refine lv_aload_n hx hb dX6_tell_30 rfl (lv_at hl 0 rfl) ?_
  refine va_get (D := D) (ci := 6) (v := .ref (ad 62)) (C := RX6) (T := TX6) (N := 5) hx hb hts inX6_tell_X6 hown hK hP 0 rfl rfl 3 (by decide) (hts (Cond.fieldLink RX6 21 "PortRooms$Openings" "marks" "[I") (wm_t (wm_l (wm_i 4 rfl)))) (fun _ h9 => h9) rfl dX6_tell_31 ?_
  refine lv_aload_n hx hb dX6_tell_34 rfl (lv_at hl 0 rfl) ?_
  refine va_get (D := D) (ci := 6) (v := .int un) (C := RX6) (T := TX6) (N := 5) hx hb hts inX6_tell_X6 hown hK hP 0 rfl rfl 4 (by decide) (hts (Cond.fieldLink RX6 24 "PortRooms$Openings" "count" "I") (wm_t (wm_l (wm_i 1 rfl)))) (fun _ h9 => h9) rfl dX6_tell_35 ?_
  refine lv_iload hx hb dX6_tell_38 (lv_at hl 4 rfl) ?_
  refine va_iast hx hb hK hP hD hS 4 0 rfl rfl (i_in (by omega) (by omega)) dX6_tell_40 (fun H locs => ?_)
  clear hP hD hS
  intro hP hD hS
  replace hP : va_P D vwCl [(oC6 ad un), (aI cI (ad 59) 60 (upd uk un.toNatClampNeg k)), (aI cI (ad 60) 60 (upd uy un.toNatClampNeg d)), (aI cI (ad 61) 60 (upd uw un.toNatClampNeg w)), (aI cI (ad 62) 60 (upd um un.toNatClampNeg q))] H := hP
  replace hD : va_D A [(oC6 ad un), (aI cI (ad 59) 60 (upd uk un.toNatClampNeg k)), (aI cI (ad 60) 60 (upd uy un.toNatClampNeg d)), (aI cI (ad 61) 60 (upd uw un.toNatClampNeg w)), (aI cI (ad 62) 60 (upd um un.toNatClampNeg q))] := hD
  refine lv_aload_n hx hb dX6_tell_41 rfl (lv_at hl 0 rfl) ?_
  refine lv_dup hx hb dX6_tell_42 rfl ?_
  refine va_get (D := D) (ci := 6) (v := .int un) (C := RX6) (T := TX6) (N := 5) hx hb hts inX6_tell_X6 hown hK hP 0 rfl rfl 4 (by decide) (hts (Cond.fieldLink RX6 24 "PortRooms$Openings" "count" "I") (wm_t (wm_l (wm_i 1 rfl)))) (fun _ h9 => h9) rfl dX6_tell_43 ?_
  refine lv_iconst (v := 1) hx hb dX6_tell_46 (by decide) ?_
  refine lv_iadd hx hb dX6_tell_47 ?_
  refine lv_topi (fun v1 ev1 => ?_)
  try have tv1 : v1.toInt = un.toInt + 1 := by rw [ev1]; exact (i_add (x := un) (y := (1 : Int32)) (by rw [k1]; omega) (by rw [k1]; omega)).trans (by rw [k1])
  refine va_put (D := D) (ci := 6) (v := .int v1) (ty := .int) (C := RX6) (T := TX6) (N := 5) hx hb hts inX6_tell_X6 tyX6 tyX6_ok nmX6 hown hK hP hD hS 0 rfl rfl 4 (by decide) (hts (Cond.fieldLink RX6 24 "PortRooms$Openings" "count" "I") (wm_t (wm_l (wm_i 1 rfl)))) (fun _ h9 => h9) rfl (tyX6_ok 4 (by decide)) rfl rfl (Nat.le_of_ble_eq_true rfl) dX6_tell_48 (fun H locs => ?_)
  clear hP hD hS
  intro hP hD hS
  replace hP : va_P D vwCl [(oC6 ad v1), (aI cI (ad 59) 60 (upd uk un.toNatClampNeg k)), (aI cI (ad 60) 60 (upd uy un.toNatClampNeg d)), (aI cI (ad 61) 60 (upd uw un.toNatClampNeg w)), (aI cI (ad 62) 60 (upd um un.toNatClampNeg q))] H := hP
  replace hD : va_D A [(oC6 ad v1), (aI cI (ad 59) 60 (upd uk un.toNatClampNeg k)), (aI cI (ad 60) 60 (upd uy un.toNatClampNeg d)), (aI cI (ad 61) 60 (upd uw un.toNatClampNeg w)), (aI cI (ad 62) 60 (upd um un.toNatClampNeg q))] := hD
  refine lv_aload_n hx hb dX6_tell_51 rfl (lv_at hl 0 rfl) ?_
  refine va_get (D := D) (ci := 6) (v := .int v1) (C := RX6) (T := TX6) (N := 5) hx hb hts inX6_tell_X6 hown hK hP 0 rfl rfl 4 (by decide) (hts (Cond.fieldLink RX6 24 "PortRooms$Openings" "count" "I") (wm_t (wm_l (wm_i 1 rfl)))) (fun _ h9 => h9) rfl dX6_tell_52 ?_
  subst ev1
  have hP9 := hP
  have hD9 := hD
  exact W.iret (v := un + 1) hx hb hr (fun t ht hW => ⟨⟨un + 1, (), rfl, rfl, by rw [ht]; exact hP9, va_K.moved hW.alike hK, hD9⟩, hS.F ht⟩) hS.2.2 dX6_tell_55

set_option maxHeartbeats 4000000 in
set_option maxRecDepth 100000 in
theorem ct_X4_tell (l : Launch) (D : va_G) (cI cY cJ cQ : ClassId) (sz : Nat) (ad : Nat → Nat) (lc : Int32) (lp la lb : Nat → Int32) (q : Int32) (a : Int32) (b : Int32)  (h1 : 0 ≤ lc.toInt) (h2 : lc.toInt < 20)  : Met l yX4_tell wsX4_tell ({ frames := 0, cells := 0, slots := 0, locals := 0 }) (cPre D (ty4 cI cY cJ cQ) [(oC4 ad lc), (aI cI (ad 63) 20 lp), (aI cI (ad 64) 20 la), (aI cI (ad 65) 20 lb)] sz [.ref (ad 10), .int q, .int a, .int b]) (va_Qi (fun (r : Int32) (u : Unit) => r = lc + 1) (cB D (ty4 cI cY cJ cQ) (fun (u : Unit) => [(oC4 ad (lc + 1)), (aI cI (ad 63) 20 (upd lp lc.toNatClampNeg q)), (aI cI (ad 64) 20 (upd la lc.toNatClampNeg a)), (aI cI (ad 65) 20 (upd lb lc.toNatClampNeg b))]) (va_A [(oC4 ad lc), (aI cI (ad 63) 20 lp), (aI cI (ad 64) 20 la), (aI cI (ad 65) 20 lb)] sz)) (va_A [(oC4 ad lc), (aI cI (ad 63) 20 lp), (aI cI (ad 64) 20 la), (aI cI (ad 65) 20 lb)] sz)) 0 0 (va_A [(oC4 ad lc), (aI cI (ad 63) 20 lp), (aI cI (ad 64) 20 la), (aI cI (ad 65) 20 lb)] sz) := by
  refine Met.ofW (cc := cX4_tell) (maxL := 4) (ret := (some .int)) (by decide) rfl ?_
  intro p e s m args below meth c s₁ B hml hv
  obtain ⟨rfl, hsz, hP, hK, hD0, hN⟩ := hv
  have hx := B.exec
  have hb := B.bytes
  have hr := B.returns
  have hts := atoms_spec (ws := wsX4_tell) B.pre
  have hown : s.vm.findClass RX4 = some m.cls := findClass_of_methodNamed B.named
  have hlocks := B.notSynchronized
  subst hsz
  have hD := hD0.self (sz := s.heap.size)
  generalize hAe : va_A [(oC4 ad lc), (aI cI (ad 63) 20 lp), (aI cI (ad 64) 20 la), (aI cI (ad 65) 20 lb)] s.heap.size = A at hD ⊢
  have hA : ∀ q : Nat, s.heap.size ≤ q → A q := fun q h => by rw [← hAe]; exact Or.inr h
  have hS : va_S A s.heap s.heap [] := va_S.rf
  have hP : va_P D vwCl [(oC4 ad lc), (aI cI (ad 63) 20 lp), (aI cI (ad 64) 20 la), (aI cI (ad 65) 20 lb)] s.heap := hP
  have hl := lv_entry ([.ref (ad 10), .int q, .int a, .int b]) (n := 4) (Nat.le_of_ble_eq_true rfl)
  rw [lg_entry_eq]
  generalize (lg_sl ([.ref (ad 10), .int q, .int a, .int b]) ++ List.replicate (4 - (lg_sl ([.ref (ad 10), .int q, .int a, .int b])).length) Slot.unset).toArray = ls at hl ⊢
  have hl : lv_has ls 4 [(0, .ref (ad 10)), (1, .int q), (2, .int a), (3, .int b)] := hl
  have k1 : (1 : Int32).toInt = 1 := by decide
  refine lv_aload_n hx hb dX4_tell_0 rfl (lv_at hl 0 rfl) ?_
  refine va_get (D := D) (ci := 4) (v := .ref (ad 63)) (C := RX4) (T := TX4) (N := 4) hx hb hts inX4_tell_X4 hown hK hP 0 rfl rfl 0 (by decide) (hts (Cond.fieldLink RX4 9 "PortRooms$Lists" "person" "[I") (wm_t (wm_l (wm_i 0 rfl)))) (fun _ h9 => h9) rfl dX4_tell_1 ?_
  refine lv_aload_n hx hb dX4_tell_4 rfl (lv_at hl 0 rfl) ?_
  refine va_get (D := D) (ci := 4) (v := .int lc) (C := RX4) (T := TX4) (N := 4) hx hb hts inX4_tell_X4 hown hK hP 0 rfl rfl 3 (by decide) (hts (Cond.fieldLink RX4 21 "PortRooms$Lists" "count" "I") (wm_t (wm_l (wm_i 1 rfl)))) (fun _ h9 => h9) rfl dX4_tell_5 ?_
  refine lv_iload_n hx hb dX4_tell_8 rfl (lv_at hl 1 rfl) ?_
  refine va_iast hx hb hK hP hD hS 1 0 rfl rfl (i_in (by omega) (by omega)) dX4_tell_9 (fun H locs => ?_)
  clear hP hD hS
  intro hP hD hS
  replace hP : va_P D vwCl [(oC4 ad lc), (aI cI (ad 63) 20 (upd lp lc.toNatClampNeg q)), (aI cI (ad 64) 20 la), (aI cI (ad 65) 20 lb)] H := hP
  replace hD : va_D A [(oC4 ad lc), (aI cI (ad 63) 20 (upd lp lc.toNatClampNeg q)), (aI cI (ad 64) 20 la), (aI cI (ad 65) 20 lb)] := hD
  refine lv_aload_n hx hb dX4_tell_10 rfl (lv_at hl 0 rfl) ?_
  refine va_get (D := D) (ci := 4) (v := .ref (ad 64)) (C := RX4) (T := TX4) (N := 4) hx hb hts inX4_tell_X4 hown hK hP 0 rfl rfl 1 (by decide) (hts (Cond.fieldLink RX4 15 "PortRooms$Lists" "from" "[I") (wm_t (wm_l (wm_i 2 rfl)))) (fun _ h9 => h9) rfl dX4_tell_11 ?_
  refine lv_aload_n hx hb dX4_tell_14 rfl (lv_at hl 0 rfl) ?_
  refine va_get (D := D) (ci := 4) (v := .int lc) (C := RX4) (T := TX4) (N := 4) hx hb hts inX4_tell_X4 hown hK hP 0 rfl rfl 3 (by decide) (hts (Cond.fieldLink RX4 21 "PortRooms$Lists" "count" "I") (wm_t (wm_l (wm_i 1 rfl)))) (fun _ h9 => h9) rfl dX4_tell_15 ?_
  refine lv_iload_n hx hb dX4_tell_18 rfl (lv_at hl 2 rfl) ?_
  refine va_iast hx hb hK hP hD hS 2 0 rfl rfl (i_in (by omega) (by omega)) dX4_tell_19 (fun H locs => ?_)
  clear hP hD hS
  intro hP hD hS
  replace hP : va_P D vwCl [(oC4 ad lc), (aI cI (ad 63) 20 (upd lp lc.toNatClampNeg q)), (aI cI (ad 64) 20 (upd la lc.toNatClampNeg a)), (aI cI (ad 65) 20 lb)] H := hP
  replace hD : va_D A [(oC4 ad lc), (aI cI (ad 63) 20 (upd lp lc.toNatClampNeg q)), (aI cI (ad 64) 20 (upd la lc.toNatClampNeg a)), (aI cI (ad 65) 20 lb)] := hD
  refine lv_aload_n hx hb dX4_tell_20 rfl (lv_at hl 0 rfl) ?_
  refine va_get (D := D) (ci := 4) (v := .ref (ad 65)) (C := RX4) (T := TX4) (N := 4) hx hb hts inX4_tell_X4 hown hK hP 0 rfl rfl 2 (by decide) (hts (Cond.fieldLink RX4 18 "PortRooms$Lists" "to" "[I") (wm_t (wm_l (wm_i 3 rfl)))) (fun _ h9 => h9) rfl dX4_tell_21 ?_
  refine lv_aload_n hx hb dX4_tell_24 rfl (lv_at hl 0 rfl) ?_
  refine va_get (D := D) (ci := 4) (v := .int lc) (C := RX4) (T := TX4) (N := 4) hx hb hts inX4_tell_X4 hown hK hP 0 rfl rfl 3 (by decide) (hts (Cond.fieldLink RX4 21 "PortRooms$Lists" "count" "I") (wm_t (wm_l (wm_i 1 rfl)))) (fun _ h9 => h9) rfl dX4_tell_25 ?_
  refine lv_iload_n hx hb dX4_tell_28 rfl (lv_at hl 3 rfl) ?_
  refine va_iast hx hb hK hP hD hS 3 0 rfl rfl (i_in (by omega) (by omega)) dX4_tell_29 (fun H locs => ?_)
  clear hP hD hS
  intro hP hD hS
  replace hP : va_P D vwCl [(oC4 ad lc), (aI cI (ad 63) 20 (upd lp lc.toNatClampNeg q)), (aI cI (ad 64) 20 (upd la lc.toNatClampNeg a)), (aI cI (ad 65) 20 (upd lb lc.toNatClampNeg b))] H := hP
  replace hD : va_D A [(oC4 ad lc), (aI cI (ad 63) 20 (upd lp lc.toNatClampNeg q)), (aI cI (ad 64) 20 (upd la lc.toNatClampNeg a)), (aI cI (ad 65) 20 (upd lb lc.toNatClampNeg b))] := hD
  refine lv_aload_n hx hb dX4_tell_30 rfl (lv_at hl 0 rfl) ?_
  refine lv_dup hx hb dX4_tell_31 rfl ?_
  refine va_get (D := D) (ci := 4) (v := .int lc) (C := RX4) (T := TX4) (N := 4) hx hb hts inX4_tell_X4 hown hK hP 0 rfl rfl 3 (by decide) (hts (Cond.fieldLink RX4 21 "PortRooms$Lists" "count" "I") (wm_t (wm_l (wm_i 1 rfl)))) (fun _ h9 => h9) rfl dX4_tell_32 ?_
  refine lv_iconst (v := 1) hx hb dX4_tell_35 (by decide) ?_
  refine lv_iadd hx hb dX4_tell_36 ?_
  refine lv_topi (fun v1 ev1 => ?_)
  try have tv1 : v1.toInt = lc.toInt + 1 := by rw [ev1]; exact (i_add (x := lc) (y := (1 : Int32)) (by rw [k1]; omega) (by rw [k1]; omega)).trans (by rw [k1])
  refine va_put (D := D) (ci := 4) (v := .int v1) (ty := .int) (C := RX4) (T := TX4) (N := 4) hx hb hts inX4_tell_X4 tyX4 tyX4_ok nmX4 hown hK hP hD hS 0 rfl rfl 3 (by decide) (hts (Cond.fieldLink RX4 21 "PortRooms$Lists" "count" "I") (wm_t (wm_l (wm_i 1 rfl)))) (fun _ h9 => h9) rfl (tyX4_ok 3 (by decide)) rfl rfl (Nat.le_of_ble_eq_true rfl) dX4_tell_37 (fun H locs => ?_)
  clear hP hD hS
  intro hP hD hS
  replace hP : va_P D vwCl [(oC4 ad v1), (aI cI (ad 63) 20 (upd lp lc.toNatClampNeg q)), (aI cI (ad 64) 20 (upd la lc.toNatClampNeg a)), (aI cI (ad 65) 20 (upd lb lc.toNatClampNeg b))] H := hP
  replace hD : va_D A [(oC4 ad v1), (aI cI (ad 63) 20 (upd lp lc.toNatClampNeg q)), (aI cI (ad 64) 20 (upd la lc.toNatClampNeg a)), (aI cI (ad 65) 20 (upd lb lc.toNatClampNeg b))] := hD
  refine lv_aload_n hx hb dX4_tell_40 rfl (lv_at hl 0 rfl) ?_
  refine va_get (D := D) (ci := 4) (v := .int v1) (C := RX4) (T := TX4) (N := 4) hx hb hts inX4_tell_X4 hown hK hP 0 rfl rfl 3 (by decide) (hts (Cond.fieldLink RX4 21 "PortRooms$Lists" "count" "I") (wm_t (wm_l (wm_i 1 rfl)))) (fun _ h9 => h9) rfl dX4_tell_41 ?_
  subst ev1
  have hP9 := hP
  have hD9 := hD
  exact W.iret (v := lc + 1) hx hb hr (fun t ht hW => ⟨⟨lc + 1, (), rfl, rfl, by rw [ht]; exact hP9, va_K.moved hW.alike hK, hD9⟩, hS.F ht⟩) hS.2.2 dX4_tell_44

def sp_hold (hn : Int32) (ho hc hp hs : Nat → Int32) (o k q d : Int32) : Int32 × Int32 × (Nat → Int32) × (Nat → Int32) × (Nat → Int32) × (Nat → Int32) := if 0 ≤ o.toInt ∧ o.toInt < 20 ∧ 10 ≤ k.toInt ∧ k.toInt < 20 ∧ ¬ o.toInt = k.toInt ∧ 0 ≤ q.toInt ∧ q.toInt ≤ 100 ∧ 0 ≤ d.toInt ∧ d.toInt < 10000 then (if 40 ≤ hn.toInt then (-1000003, hn, ho, hc, hp, hs) else (hn + 1, hn + 1, upd ho hn.toNatClampNeg o, upd hc hn.toNatClampNeg k, upd hp hn.toNatClampNeg q, upd hs hn.toNatClampNeg d)) else (-1000001, hn, ho, hc, hp, hs)

set_option maxHeartbeats 4000000 in
set_option maxRecDepth 100000 in
theorem ct_X10_hold (l : Launch) (D : va_G) (cI cY cJ cQ : ClassId) (sz : Nat) (ad : Nat → Nat) (tn td lf hn : Int32) (ho hc hp hs : Nat → Int32) (o : Int32) (k : Int32) (q : Int32) (d : Int32)  (h1 : 0 ≤ hn.toInt) (h2 : hn.toInt ≤ 40)  : Met l yX10_hold wsX10_hold ({ frames := 3, cells := 0, slots := 0, locals := 62 }) (cPre D (ty4 cI cY cJ cQ) [(oC10 ad tn td lf), (oC3 ad hn), (aI cI (ad 23) 40 ho), (aI cI (ad 24) 40 hc), (aI cI (ad 25) 40 hp), (aI cI (ad 26) 40 hs)] sz [.ref (ad 0), .int o, .int k, .int q, .int d]) (va_Qi (fun (r : Int32) (u : Int32 × (Nat → Int32) × (Nat → Int32) × (Nat → Int32) × (Nat → Int32)) => (r, u) = sp_hold hn ho hc hp hs o k q d) (cB D (ty4 cI cY cJ cQ) (fun (u : Int32 × (Nat → Int32) × (Nat → Int32) × (Nat → Int32) × (Nat → Int32)) => [(oC10 ad tn td lf), (oC3 ad u.1), (aI cI (ad 23) 40 u.2.1), (aI cI (ad 24) 40 u.2.2.1), (aI cI (ad 25) 40 u.2.2.2.1), (aI cI (ad 26) 40 u.2.2.2.2)]) (va_A [(oC10 ad tn td lf), (oC3 ad hn), (aI cI (ad 23) 40 ho), (aI cI (ad 24) 40 hc), (aI cI (ad 25) 40 hp), (aI cI (ad 26) 40 hs)] sz)) (va_A [(oC10 ad tn td lf), (oC3 ad hn), (aI cI (ad 23) 40 ho), (aI cI (ad 24) 40 hc), (aI cI (ad 25) 40 hp), (aI cI (ad 26) 40 hs)] sz)) 0 0 (va_A [(oC10 ad tn td lf), (oC3 ad hn), (aI cI (ad 23) 40 ho), (aI cI (ad 24) 40 hc), (aI cI (ad 25) 40 hp), (aI cI (ad 26) 40 hs)] sz) := by
  refine Met.ofW (cc := cX10_hold) (maxL := 5) (ret := (some .int)) (by decide) rfl ?_
  intro p e s m args below meth c s₁ B hml hv
  obtain ⟨rfl, hsz, hP, hK, hD0, hN⟩ := hv
  have hx := B.exec
  have hb := B.bytes
  have hr := B.returns
  have hts := atoms_spec (ws := wsX10_hold) B.pre
  have hown : s.vm.findClass RX10 = some m.cls := findClass_of_methodNamed B.named
  have hlocks := B.notSynchronized
  subst hsz
  have hD := hD0.self (sz := s.heap.size)
  generalize hAe : va_A [(oC10 ad tn td lf), (oC3 ad hn), (aI cI (ad 23) 40 ho), (aI cI (ad 24) 40 hc), (aI cI (ad 25) 40 hp), (aI cI (ad 26) 40 hs)] s.heap.size = A at hD ⊢
  have hA : ∀ q : Nat, s.heap.size ≤ q → A q := fun q h => by rw [← hAe]; exact Or.inr h
  have hS : va_S A s.heap s.heap [] := va_S.rf
  have hP : va_P D vwCl [(oC10 ad tn td lf), (oC3 ad hn), (aI cI (ad 23) 40 ho), (aI cI (ad 24) 40 hc), (aI cI (ad 25) 40 hp), (aI cI (ad 26) 40 hs)] s.heap := hP
  have hl := lv_entry ([.ref (ad 0), .int o, .int k, .int q, .int d]) (n := 5) (Nat.le_of_ble_eq_true rfl)
  rw [lg_entry_eq]
  generalize (lg_sl ([.ref (ad 0), .int o, .int k, .int q, .int d]) ++ List.replicate (5 - (lg_sl ([.ref (ad 0), .int o, .int k, .int q, .int d])).length) Slot.unset).toArray = ls at hl ⊢
  have hl : lv_has ls 5 [(0, .ref (ad 0)), (1, .int o), (2, .int k), (3, .int q), (4, .int d)] := hl
  have km1000003 : (-1000003 : Int32).toInt = -1000003 := by decide
  have km1000001 : (-1000001 : Int32).toInt = -1000001 := by decide
  have k0 : (0 : Int32).toInt = 0 := by decide
  have k40 : (40 : Int32).toInt = 40 := by decide
  have k100 : (100 : Int32).toInt = 100 := by decide
  refine lv_iload_n hx hb dX10_hold_0 rfl (lv_at hl 1 rfl) ?_
  refine lv_iload_n hx hb dX10_hold_1 rfl (lv_at hl 2 rfl) ?_
  refine st_i1 (va_runS (As := [.int o, .int k]) (rest := []) ⟨hx, hb, hml, hown, hts⟩ (ct_X10_isPair l D cI cY cJ cQ _ o k) (va_cwS 2 hts gX10_hold_X10_isPair rfl rfl rfl cdX10_isPair ⟨Nat.le_of_ble_eq_true rfl, Nat.le_of_ble_eq_true rfl⟩) (cPreS (hP.sub [] rfl) hK (hD.sub [] (by decide +kernel) rfl) hN) rfl rfl hl.1 rfl (lv_room (Nat.le_of_ble_eq_true rfl)) dX10_hold_2 ⟨Nat.le_of_ble_eq_true rfl, Nat.le_of_ble_eq_true rfl⟩) hP hD hS hA [] rfl (fun _ => rfl) (fun r3 u1 H locs hw2 => ?_)
  clear hP hS
  intro hP hS
  replace hw2 : r3 = if 0 ≤ o.toInt ∧ o.toInt < 20 ∧ 10 ≤ k.toInt ∧ k.toInt < 20 ∧ ¬ o.toInt = k.toInt then 1 else 0 := hw2
  refine lv_if_eq (tgt := 26) hx hb dX10_hold_5 (by decide) (fun c4 => ?_) (fun c4 => ?_)
  · skip
    have f5 := bo_f hw2 c4
    refine lv_ldc hx hb hown (hts (Cond.constant RX10 89 (-1000001)) (wm_t (wm_l (wm_i 0 rfl)))) dX10_hold_26 ?_
    have hP9 := hP
    have hD9 := hD
    exact W.iret (v := (-1000001)) hx hb hr (fun t ht hW => ⟨⟨(-1000001), (hn, ho, hc, hp, hs), rfl, (by unfold sp_hold; (repeat' split) <;> first | rfl | (exfalso; omega) | (subst_vars; rfl)), by rw [ht]; exact hP9, va_K.moved hW.alike hK, hD9⟩, hS.F ht⟩) hS.2.2 dX10_hold_28
  · skip
    have f6 := bo_t hw2 c4
    refine lv_iload_n hx hb dX10_hold_8 rfl (lv_at hl 3 rfl) ?_
    refine lv_iconst (v := 0) hx hb dX10_hold_9 (by decide) ?_
    refine lv_bipush (v := 100) hx hb dX10_hold_10 (by decide) ?_
    refine st_i1 (va_runS (As := [.int q, .int 0, .int 100]) (rest := []) ⟨hx, hb, hml, hown, hts⟩ (ct_X10_isFrom l D cI cY cJ cQ _ q (0 : Int32) (100 : Int32)) (va_cwS 3 hts gX10_hold_X10_isFrom rfl rfl rfl cdX10_isFrom ⟨Nat.le_of_ble_eq_true rfl, Nat.le_of_ble_eq_true rfl⟩) (cPreS (hP.sub [] rfl) hK (hD.sub [] (by decide +kernel) rfl) hN) rfl rfl hl.1 rfl (lv_room (Nat.le_of_ble_eq_true rfl)) dX10_hold_12 ⟨Nat.le_of_ble_eq_true rfl, Nat.le_of_ble_eq_true rfl⟩) hP hD hS hA [] rfl (fun _ => rfl) (fun r9 u7 H locs hw8 => ?_)
    clear hP hS
    intro hP hS
    replace hw8 : r9 = if (0 : Int32).toInt ≤ q.toInt ∧ q.toInt ≤ (100 : Int32).toInt then 1 else 0 := hw8
    refine lv_if_eq (tgt := 26) hx hb dX10_hold_15 (by decide) (fun c10 => ?_) (fun c10 => ?_)
    · skip
      have f11 := bo_f hw8 c10
      refine lv_ldc hx hb hown (hts (Cond.constant RX10 89 (-1000001)) (wm_t (wm_l (wm_i 0 rfl)))) dX10_hold_26 ?_
      have hP9 := hP
      have hD9 := hD
      exact W.iret (v := (-1000001)) hx hb hr (fun t ht hW => ⟨⟨(-1000001), (hn, ho, hc, hp, hs), rfl, (by unfold sp_hold; (repeat' split) <;> first | rfl | (exfalso; omega) | (subst_vars; rfl)), by rw [ht]; exact hP9, va_K.moved hW.alike hK, hD9⟩, hS.F ht⟩) hS.2.2 dX10_hold_28
    · skip
      have f12 := bo_t hw8 c10
      refine lv_iload hx hb dX10_hold_18 (lv_at hl 4 rfl) ?_
      refine st_i1 (va_runS (As := [.int d]) (rest := []) ⟨hx, hb, hml, hown, hts⟩ (ct_X10_isDay l D cI cY cJ cQ _ d) (va_cwS 1 hts gX10_hold_X10_isDay rfl rfl rfl cdX10_isDay ⟨Nat.le_of_ble_eq_true rfl, Nat.le_of_ble_eq_true rfl⟩) (cPreS (hP.sub [] rfl) hK (hD.sub [] (by decide +kernel) rfl) hN) rfl rfl hl.1 rfl (lv_room (Nat.le_of_ble_eq_true rfl)) dX10_hold_20 ⟨Nat.le_of_ble_eq_true rfl, Nat.le_of_ble_eq_true rfl⟩) hP hD hS hA [] rfl (fun _ => rfl) (fun r15 u13 H locs hw14 => ?_)
      clear hP hS
      intro hP hS
      replace hw14 : r15 = if 0 ≤ d.toInt ∧ d.toInt < 10000 then 1 else 0 := hw14
      refine lv_if_ne (tgt := 29) hx hb dX10_hold_23 (by decide) (fun c16 => ?_) (fun c16 => ?_)
      · skip
        have f17 := bo_t hw14 c16
        refine lv_aload_n hx hb dX10_hold_29 rfl (lv_at hl 0 rfl) ?_
        refine va_get (D := D) (ci := 10) (v := .ref (ad 2)) (C := RX10) (T := TX10) (N := 14) hx hb hts inX10_hold_X10 hown hK hP 0 rfl rfl 1 (by decide) (hts (Cond.fieldLink RX10 19 "PortRooms" "holdings" "LPortRooms$Holdings;") (wm_t (wm_l (wm_i 1 rfl)))) (fun _ h9 => h9) rfl dX10_hold_30 ?_
        refine va_get (D := D) (ci := 3) (v := .int hn) (C := RX3) (T := TX3) (N := 9) hx hb hts inX10_hold_X3 hown hK hP 1 rfl rfl 4 (by decide) (hts (Cond.fieldLink RX10 141 "PortRooms$Holdings" "count" "I") (wm_t (wm_l (wm_i 2 rfl)))) (fun _ h9 => h9) rfl dX10_hold_33 ?_
        refine lv_bipush (v := 40) hx hb dX10_hold_36 (by decide) ?_
        refine lv_icmp_lt (tgt := 44) hx hb dX10_hold_38 (by decide) (fun c18 => ?_) (fun c18 => ?_)
        · skip
          have f19 := i_lt c18
          refine lv_aload_n hx hb dX10_hold_44 rfl (lv_at hl 0 rfl) ?_
          refine va_get (D := D) (ci := 10) (v := .ref (ad 2)) (C := RX10) (T := TX10) (N := 14) hx hb hts inX10_hold_X10 hown hK hP 0 rfl rfl 1 (by decide) (hts (Cond.fieldLink RX10 19 "PortRooms" "holdings" "LPortRooms$Holdings;") (wm_t (wm_l (wm_i 1 rfl)))) (fun _ h9 => h9) rfl dX10_hold_45 ?_
          refine lv_iload_n hx hb dX10_hold_48 rfl (lv_at hl 1 rfl) ?_
          refine lv_iload_n hx hb dX10_hold_49 rfl (lv_at hl 2 rfl) ?_
          refine lv_iload_n hx hb dX10_hold_50 rfl (lv_at hl 3 rfl) ?_
          refine lv_iload hx hb dX10_hold_51 (lv_at hl 4 rfl) ?_
          refine st_i (wr := [(oC10 ad tn td lf)]) (va_runV (C := RX3) (As := [.int o, .int k, .int q, .int d]) (rest := []) ⟨hx, hb, hml, hown, hts⟩ (ct_X3_tell l D cI cY cJ cQ _ ad hn ho hc hp hs o k q d h1 (by omega)) (cwV 4 hts gX10_hold_X3_tell rfl rfl rfl ⟨rfl, cdX3_tell⟩ ⟨Nat.le_of_ble_eq_true rfl, Nat.le_of_ble_eq_true rfl⟩) (cPreV (hP.sub [1, 2, 3, 4, 5] rfl) hK (hD.sub [1, 2, 3, 4, 5] (by decide +kernel) rfl) hN (ci := 3) (q0 := 0) rfl rfl) rfl rfl hl.1 rfl (lv_room (Nat.le_of_ble_eq_true rfl)) dX10_hold_53 ⟨Nat.le_of_ble_eq_true rfl, Nat.le_of_ble_eq_true rfl⟩) hP hD hS hA [1, 2, 3, 4, 5] [0] rfl rfl (by decide +kernel) (by decide +kernel) (fun r22 u20 H locs hw21 => ?_)
          clear hP hD hS
          intro hP hD hS
          replace hw21 : r22 = hn + 1 := hw21
          replace hP : va_P D vwCl [(oC10 ad tn td lf), (oC3 ad (hn + 1)), (aI cI (ad 23) 40 (upd ho hn.toNatClampNeg o)), (aI cI (ad 24) 40 (upd hc hn.toNatClampNeg k)), (aI cI (ad 25) 40 (upd hp hn.toNatClampNeg q)), (aI cI (ad 26) 40 (upd hs hn.toNatClampNeg d))] H := hP
          replace hD : va_D A [(oC10 ad tn td lf), (oC3 ad (hn + 1)), (aI cI (ad 23) 40 (upd ho hn.toNatClampNeg o)), (aI cI (ad 24) 40 (upd hc hn.toNatClampNeg k)), (aI cI (ad 25) 40 (upd hp hn.toNatClampNeg q)), (aI cI (ad 26) 40 (upd hs hn.toNatClampNeg d))] := hD
          subst hw21
          have hP9 := hP
          have hD9 := hD
          exact W.iret (v := hn + 1) hx hb hr (fun t ht hW => ⟨⟨hn + 1, (hn + 1, upd ho hn.toNatClampNeg o, upd hc hn.toNatClampNeg k, upd hp hn.toNatClampNeg q, upd hs hn.toNatClampNeg d), rfl, (by unfold sp_hold; (repeat' split) <;> first | rfl | (exfalso; omega) | (subst_vars; rfl)), by rw [ht]; exact hP9, va_K.moved hW.alike hK, hD9⟩, hS.F ht⟩) hS.2.2 dX10_hold_56
        · skip
          have f23 := i_nlt c18
          refine lv_ldc hx hb hown (hts (Cond.constant RX10 145 (-1000003)) (wm_t (wm_l (wm_i 3 rfl)))) dX10_hold_41 ?_
          have hP9 := hP
          have hD9 := hD
          exact W.iret (v := (-1000003)) hx hb hr (fun t ht hW => ⟨⟨(-1000003), (hn, ho, hc, hp, hs), rfl, (by unfold sp_hold; (repeat' split) <;> first | rfl | (exfalso; omega) | (subst_vars; rfl)), by rw [ht]; exact hP9, va_K.moved hW.alike hK, hD9⟩, hS.F ht⟩) hS.2.2 dX10_hold_43
      · skip
        have f24 := bo_f hw14 c16
        refine lv_ldc hx hb hown (hts (Cond.constant RX10 89 (-1000001)) (wm_t (wm_l (wm_i 0 rfl)))) dX10_hold_26 ?_
        have hP9 := hP
        have hD9 := hD
        exact W.iret (v := (-1000001)) hx hb hr (fun t ht hW => ⟨⟨(-1000001), (hn, ho, hc, hp, hs), rfl, (by unfold sp_hold; (repeat' split) <;> first | rfl | (exfalso; omega) | (subst_vars; rfl)), by rw [ht]; exact hP9, va_K.moved hW.alike hK, hD9⟩, hS.F ht⟩) hS.2.2 dX10_hold_28

def sp_crate (cn : Int32) (fo wo : Nat → Int32) (o w : Int32) : Int32 × Int32 × (Nat → Int32) × (Nat → Int32) := if 0 ≤ o.toInt ∧ o.toInt < 20 ∧ 1 ≤ w.toInt ∧ w.toInt ≤ 100000 then (if 12 ≤ cn.toInt then (-1000003, cn, fo, wo) else (cn + 1 - 1, cn + 1, upd fo cn.toNatClampNeg o, upd wo cn.toNatClampNeg w)) else (-1000001, cn, fo, wo)

set_option maxHeartbeats 4000000 in
set_option maxRecDepth 100000 in
theorem ct_X10_crate (l : Launch) (D : va_G) (cI cY cJ cQ : ClassId) (sz : Nat) (ad : Nat → Nat) (tn td lf cn : Int32) (fo wo : Nat → Int32) (o : Int32) (w : Int32)  (h1 : 0 ≤ cn.toInt) (h2 : cn.toInt ≤ 12)  : Met l yX10_crate wsX10_crate ({ frames := 2, cells := 0, slots := 0, locals := 41 }) (cPre D (ty4 cI cY cJ cQ) [(oC10 ad tn td lf), (oC1 ad cn), (aI cI (ad 31) 12 fo), (aI cI (ad 32) 12 wo)] sz [.ref (ad 0), .int o, .int w]) (va_Qi (fun (r : Int32) (u : Int32 × (Nat → Int32) × (Nat → Int32)) => (r, u) = sp_crate cn fo wo o w) (cB D (ty4 cI cY cJ cQ) (fun (u : Int32 × (Nat → Int32) × (Nat → Int32)) => [(oC10 ad tn td lf), (oC1 ad u.1), (aI cI (ad 31) 12 u.2.1), (aI cI (ad 32) 12 u.2.2)]) (va_A [(oC10 ad tn td lf), (oC1 ad cn), (aI cI (ad 31) 12 fo), (aI cI (ad 32) 12 wo)] sz)) (va_A [(oC10 ad tn td lf), (oC1 ad cn), (aI cI (ad 31) 12 fo), (aI cI (ad 32) 12 wo)] sz)) 0 0 (va_A [(oC10 ad tn td lf), (oC1 ad cn), (aI cI (ad 31) 12 fo), (aI cI (ad 32) 12 wo)] sz) := by
  refine Met.ofW (cc := cX10_crate) (maxL := 3) (ret := (some .int)) (by decide) rfl ?_
  intro p e s m args below meth c s₁ B hml hv
  obtain ⟨rfl, hsz, hP, hK, hD0, hN⟩ := hv
  have hx := B.exec
  have hb := B.bytes
  have hr := B.returns
  have hts := atoms_spec (ws := wsX10_crate) B.pre
  have hown : s.vm.findClass RX10 = some m.cls := findClass_of_methodNamed B.named
  have hlocks := B.notSynchronized
  subst hsz
  have hD := hD0.self (sz := s.heap.size)
  generalize hAe : va_A [(oC10 ad tn td lf), (oC1 ad cn), (aI cI (ad 31) 12 fo), (aI cI (ad 32) 12 wo)] s.heap.size = A at hD ⊢
  have hA : ∀ q : Nat, s.heap.size ≤ q → A q := fun q h => by rw [← hAe]; exact Or.inr h
  have hS : va_S A s.heap s.heap [] := va_S.rf
  have hP : va_P D vwCl [(oC10 ad tn td lf), (oC1 ad cn), (aI cI (ad 31) 12 fo), (aI cI (ad 32) 12 wo)] s.heap := hP
  have hl := lv_entry ([.ref (ad 0), .int o, .int w]) (n := 3) (Nat.le_of_ble_eq_true rfl)
  rw [lg_entry_eq]
  generalize (lg_sl ([.ref (ad 0), .int o, .int w]) ++ List.replicate (3 - (lg_sl ([.ref (ad 0), .int o, .int w])).length) Slot.unset).toArray = ls at hl ⊢
  have hl : lv_has ls 3 [(0, .ref (ad 0)), (1, .int o), (2, .int w)] := hl
  have km1000003 : (-1000003 : Int32).toInt = -1000003 := by decide
  have km1000001 : (-1000001 : Int32).toInt = -1000001 := by decide
  have k0 : (0 : Int32).toInt = 0 := by decide
  have k1 : (1 : Int32).toInt = 1 := by decide
  have k12 : (12 : Int32).toInt = 12 := by decide
  have k100000 : (100000 : Int32).toInt = 100000 := by decide
  refine lv_iload_n hx hb dX10_crate_0 rfl (lv_at hl 1 rfl) ?_
  refine st_i1 (va_runS (As := [.int o]) (rest := []) ⟨hx, hb, hml, hown, hts⟩ (ct_X10_isOwner l D cI cY cJ cQ _ o) (va_cwS 1 hts gX10_crate_X10_isOwner rfl rfl rfl cdX10_isOwner ⟨Nat.le_of_ble_eq_true rfl, Nat.le_of_ble_eq_true rfl⟩) (cPreS (hP.sub [] rfl) hK (hD.sub [] (by decide +kernel) rfl) hN) rfl rfl hl.1 rfl (lv_room (Nat.le_of_ble_eq_true rfl)) dX10_crate_1 ⟨Nat.le_of_ble_eq_true rfl, Nat.le_of_ble_eq_true rfl⟩) hP hD hS hA [] rfl (fun _ => rfl) (fun r3 u1 H locs hw2 => ?_)
  clear hP hS
  intro hP hS
  replace hw2 : r3 = if 0 ≤ o.toInt ∧ o.toInt < 20 then 1 else 0 := hw2
  refine lv_if_eq (tgt := 17) hx hb dX10_crate_4 (by decide) (fun c4 => ?_) (fun c4 => ?_)
  · skip
    have f5 := bo_f hw2 c4
    refine lv_ldc hx hb hown (hts (Cond.constant RX10 89 (-1000001)) (wm_t (wm_l (wm_i 1 rfl)))) dX10_crate_17 ?_
    have hP9 := hP
    have hD9 := hD
    exact W.iret (v := (-1000001)) hx hb hr (fun t ht hW => ⟨⟨(-1000001), (cn, fo, wo), rfl, (by unfold sp_crate; (repeat' split) <;> first | rfl | (exfalso; omega) | (subst_vars; rfl)), by rw [ht]; exact hP9, va_K.moved hW.alike hK, hD9⟩, hS.F ht⟩) hS.2.2 dX10_crate_19
  · skip
    have f6 := bo_t hw2 c4
    refine lv_iload_n hx hb dX10_crate_7 rfl (lv_at hl 2 rfl) ?_
    refine lv_iconst (v := 1) hx hb dX10_crate_8 (by decide) ?_
    refine lv_ldc hx hb hown (hts (Cond.constant RX10 176 (100000)) (wm_t (wm_l (wm_i 0 rfl)))) dX10_crate_9 ?_
    refine st_i1 (va_runS (As := [.int w, .int 1, .int 100000]) (rest := []) ⟨hx, hb, hml, hown, hts⟩ (ct_X10_isFrom l D cI cY cJ cQ _ w (1 : Int32) (100000 : Int32)) (va_cwS 3 hts gX10_crate_X10_isFrom rfl rfl rfl cdX10_isFrom ⟨Nat.le_of_ble_eq_true rfl, Nat.le_of_ble_eq_true rfl⟩) (cPreS (hP.sub [] rfl) hK (hD.sub [] (by decide +kernel) rfl) hN) rfl rfl hl.1 rfl (lv_room (Nat.le_of_ble_eq_true rfl)) dX10_crate_11 ⟨Nat.le_of_ble_eq_true rfl, Nat.le_of_ble_eq_true rfl⟩) hP hD hS hA [] rfl (fun _ => rfl) (fun r9 u7 H locs hw8 => ?_)
    clear hP hS
    intro hP hS
    replace hw8 : r9 = if (1 : Int32).toInt ≤ w.toInt ∧ w.toInt ≤ (100000 : Int32).toInt then 1 else 0 := hw8
    refine lv_if_ne (tgt := 20) hx hb dX10_crate_14 (by decide) (fun c10 => ?_) (fun c10 => ?_)
    · skip
      have f11 := bo_t hw8 c10
      refine lv_aload_n hx hb dX10_crate_20 rfl (lv_at hl 0 rfl) ?_
      refine va_get (D := D) (ci := 10) (v := .ref (ad 3)) (C := RX10) (T := TX10) (N := 14) hx hb hts inX10_crate_X10 hown hK hP 0 rfl rfl 2 (by decide) (hts (Cond.fieldLink RX10 26 "PortRooms" "crates" "LPortRooms$Crates;") (wm_t (wm_l (wm_i 2 rfl)))) (fun _ h9 => h9) rfl dX10_crate_21 ?_
      refine va_get (D := D) (ci := 1) (v := .int cn) (C := RX1) (T := TX1) (N := 6) hx hb hts inX10_crate_X1 hown hK hP 1 rfl rfl 3 (by decide) (hts (Cond.fieldLink RX10 177 "PortRooms$Crates" "count" "I") (wm_t (wm_l (wm_i 3 rfl)))) (fun _ h9 => h9) rfl dX10_crate_24 ?_
      refine lv_bipush (v := 12) hx hb dX10_crate_27 (by decide) ?_
      refine lv_icmp_lt (tgt := 35) hx hb dX10_crate_29 (by decide) (fun c12 => ?_) (fun c12 => ?_)
      · skip
        have f13 := i_lt c12
        refine lv_aload_n hx hb dX10_crate_35 rfl (lv_at hl 0 rfl) ?_
        refine va_get (D := D) (ci := 10) (v := .ref (ad 3)) (C := RX10) (T := TX10) (N := 14) hx hb hts inX10_crate_X10 hown hK hP 0 rfl rfl 2 (by decide) (hts (Cond.fieldLink RX10 26 "PortRooms" "crates" "LPortRooms$Crates;") (wm_t (wm_l (wm_i 2 rfl)))) (fun _ h9 => h9) rfl dX10_crate_36 ?_
        refine lv_iload_n hx hb dX10_crate_39 rfl (lv_at hl 1 rfl) ?_
        refine lv_iload_n hx hb dX10_crate_40 rfl (lv_at hl 2 rfl) ?_
        refine st_i (wr := [(oC10 ad tn td lf)]) (va_runV (C := RX1) (As := [.int o, .int w]) (rest := []) ⟨hx, hb, hml, hown, hts⟩ (ct_X1_tell l D cI cY cJ cQ _ ad cn fo wo o w h1 (by omega)) (cwV 2 hts gX10_crate_X1_tell rfl rfl rfl ⟨rfl, cdX1_tell⟩ ⟨Nat.le_of_ble_eq_true rfl, Nat.le_of_ble_eq_true rfl⟩) (cPreV (hP.sub [1, 2, 3] rfl) hK (hD.sub [1, 2, 3] (by decide +kernel) rfl) hN (ci := 1) (q0 := 0) rfl rfl) rfl rfl hl.1 rfl (lv_room (Nat.le_of_ble_eq_true rfl)) dX10_crate_41 ⟨Nat.le_of_ble_eq_true rfl, Nat.le_of_ble_eq_true rfl⟩) hP hD hS hA [1, 2, 3] [0] rfl rfl (by decide +kernel) (by decide +kernel) (fun r16 u14 H locs hw15 => ?_)
        clear hP hD hS
        intro hP hD hS
        replace hw15 : r16 = cn + 1 - 1 := hw15
        replace hP : va_P D vwCl [(oC10 ad tn td lf), (oC1 ad (cn + 1)), (aI cI (ad 31) 12 (upd fo cn.toNatClampNeg o)), (aI cI (ad 32) 12 (upd wo cn.toNatClampNeg w))] H := hP
        replace hD : va_D A [(oC10 ad tn td lf), (oC1 ad (cn + 1)), (aI cI (ad 31) 12 (upd fo cn.toNatClampNeg o)), (aI cI (ad 32) 12 (upd wo cn.toNatClampNeg w))] := hD
        subst hw15
        have hP9 := hP
        have hD9 := hD
        exact W.iret (v := cn + 1 - 1) hx hb hr (fun t ht hW => ⟨⟨cn + 1 - 1, (cn + 1, upd fo cn.toNatClampNeg o, upd wo cn.toNatClampNeg w), rfl, (by unfold sp_crate; (repeat' split) <;> first | rfl | (exfalso; omega) | (subst_vars; rfl)), by rw [ht]; exact hP9, va_K.moved hW.alike hK, hD9⟩, hS.F ht⟩) hS.2.2 dX10_crate_44
      · skip
        have f17 := i_nlt c12
        refine lv_ldc hx hb hown (hts (Cond.constant RX10 145 (-1000003)) (wm_t (wm_l (wm_i 4 rfl)))) dX10_crate_32 ?_
        have hP9 := hP
        have hD9 := hD
        exact W.iret (v := (-1000003)) hx hb hr (fun t ht hW => ⟨⟨(-1000003), (cn, fo, wo), rfl, (by unfold sp_crate; (repeat' split) <;> first | rfl | (exfalso; omega) | (subst_vars; rfl)), by rw [ht]; exact hP9, va_K.moved hW.alike hK, hD9⟩, hS.F ht⟩) hS.2.2 dX10_crate_34
    · skip
      have f18 := bo_f hw8 c10
      refine lv_ldc hx hb hown (hts (Cond.constant RX10 89 (-1000001)) (wm_t (wm_l (wm_i 1 rfl)))) dX10_crate_17 ?_
      have hP9 := hP
      have hD9 := hD
      exact W.iret (v := (-1000001)) hx hb hr (fun t ht hW => ⟨⟨(-1000001), (cn, fo, wo), rfl, (by unfold sp_crate; (repeat' split) <;> first | rfl | (exfalso; omega) | (subst_vars; rfl)), by rw [ht]; exact hP9, va_K.moved hW.alike hK, hD9⟩, hS.F ht⟩) hS.2.2 dX10_crate_19

def sp_pledge (gn : Int32) (gk gs gd ge : Nat → Int32) (cn k x q a b : Int32) : Int32 × Int32 × (Nat → Int32) × (Nat → Int32) × (Nat → Int32) × (Nat → Int32) := if 0 ≤ k.toInt ∧ k.toInt < cn.toInt ∧ 0 ≤ x.toInt ∧ x.toInt < 10 ∧ 1 ≤ q.toInt ∧ q.toInt ≤ 100000 ∧ 0 ≤ a.toInt ∧ b.toInt < 10000 ∧ a.toInt ≤ b.toInt then (if 40 ≤ gn.toInt then (-1000003, gn, gk, gs, gd, ge) else (gn + 1 - 1, gn + 1, upd gk gn.toNatClampNeg k, upd gs gn.toNatClampNeg q, upd gd gn.toNatClampNeg a, upd ge gn.toNatClampNeg b)) else (-1000001, gn, gk, gs, gd, ge)

set_option maxHeartbeats 4000000 in
set_option maxRecDepth 100000 in
theorem ct_X10_pledge (l : Launch) (D : va_G) (cI cY cJ cQ : ClassId) (sz : Nat) (ad : Nat → Nat) (tn td lf cn gn : Int32) (gk gs gd ge : Nat → Int32) (k : Int32) (x : Int32) (q : Int32) (a : Int32) (b : Int32)  (h1 : 0 ≤ gn.toInt) (h2 : gn.toInt ≤ 40)  : Met l yX10_pledge wsX10_pledge ({ frames := 3, cells := 0, slots := 0, locals := 62 }) (cPre D (ty4 cI cY cJ cQ) [(oC10 ad tn td lf), (oC1 ad cn), (oC8 ad gn), (aI cI (ad 42) 40 gk), (aI cI (ad 43) 40 gs), (aI cI (ad 44) 40 gd), (aI cI (ad 45) 40 ge)] sz [.ref (ad 0), .int k, .int x, .int q, .int a, .int b]) (va_Qi (fun (r : Int32) (u : Int32 × (Nat → Int32) × (Nat → Int32) × (Nat → Int32) × (Nat → Int32)) => (r, u) = sp_pledge gn gk gs gd ge cn k x q a b) (cB D (ty4 cI cY cJ cQ) (fun (u : Int32 × (Nat → Int32) × (Nat → Int32) × (Nat → Int32) × (Nat → Int32)) => [(oC10 ad tn td lf), (oC1 ad cn), (oC8 ad u.1), (aI cI (ad 42) 40 u.2.1), (aI cI (ad 43) 40 u.2.2.1), (aI cI (ad 44) 40 u.2.2.2.1), (aI cI (ad 45) 40 u.2.2.2.2)]) (va_A [(oC10 ad tn td lf), (oC1 ad cn), (oC8 ad gn), (aI cI (ad 42) 40 gk), (aI cI (ad 43) 40 gs), (aI cI (ad 44) 40 gd), (aI cI (ad 45) 40 ge)] sz)) (va_A [(oC10 ad tn td lf), (oC1 ad cn), (oC8 ad gn), (aI cI (ad 42) 40 gk), (aI cI (ad 43) 40 gs), (aI cI (ad 44) 40 gd), (aI cI (ad 45) 40 ge)] sz)) 0 0 (va_A [(oC10 ad tn td lf), (oC1 ad cn), (oC8 ad gn), (aI cI (ad 42) 40 gk), (aI cI (ad 43) 40 gs), (aI cI (ad 44) 40 gd), (aI cI (ad 45) 40 ge)] sz) := by
  refine Met.ofW (cc := cX10_pledge) (maxL := 6) (ret := (some .int)) (by decide) rfl ?_
  intro p e s m args below meth c s₁ B hml hv
  obtain ⟨rfl, hsz, hP, hK, hD0, hN⟩ := hv
  have hx := B.exec
  have hb := B.bytes
  have hr := B.returns
  have hts := atoms_spec (ws := wsX10_pledge) B.pre
  have hown : s.vm.findClass RX10 = some m.cls := findClass_of_methodNamed B.named
  have hlocks := B.notSynchronized
  subst hsz
  have hD := hD0.self (sz := s.heap.size)
  generalize hAe : va_A [(oC10 ad tn td lf), (oC1 ad cn), (oC8 ad gn), (aI cI (ad 42) 40 gk), (aI cI (ad 43) 40 gs), (aI cI (ad 44) 40 gd), (aI cI (ad 45) 40 ge)] s.heap.size = A at hD ⊢
  have hA : ∀ q : Nat, s.heap.size ≤ q → A q := fun q h => by rw [← hAe]; exact Or.inr h
  have hS : va_S A s.heap s.heap [] := va_S.rf
  have hP : va_P D vwCl [(oC10 ad tn td lf), (oC1 ad cn), (oC8 ad gn), (aI cI (ad 42) 40 gk), (aI cI (ad 43) 40 gs), (aI cI (ad 44) 40 gd), (aI cI (ad 45) 40 ge)] s.heap := hP
  have hl := lv_entry ([.ref (ad 0), .int k, .int x, .int q, .int a, .int b]) (n := 6) (Nat.le_of_ble_eq_true rfl)
  rw [lg_entry_eq]
  generalize (lg_sl ([.ref (ad 0), .int k, .int x, .int q, .int a, .int b]) ++ List.replicate (6 - (lg_sl ([.ref (ad 0), .int k, .int x, .int q, .int a, .int b])).length) Slot.unset).toArray = ls at hl ⊢
  have hl : lv_has ls 6 [(0, .ref (ad 0)), (1, .int k), (2, .int x), (3, .int q), (4, .int a), (5, .int b)] := hl
  have km1000003 : (-1000003 : Int32).toInt = -1000003 := by decide
  have km1000001 : (-1000001 : Int32).toInt = -1000001 := by decide
  have k0 : (0 : Int32).toInt = 0 := by decide
  have k1 : (1 : Int32).toInt = 1 := by decide
  have k40 : (40 : Int32).toInt = 40 := by decide
  have k100000 : (100000 : Int32).toInt = 100000 := by decide
  refine lv_aload_n hx hb dX10_pledge_0 rfl (lv_at hl 0 rfl) ?_
  refine lv_iload_n hx hb dX10_pledge_1 rfl (lv_at hl 1 rfl) ?_
  refine st_i1 (va_runV (C := RX10) (As := [.int k]) (rest := []) ⟨hx, hb, hml, hown, hts⟩ (ct_X10_isCrate l D cI cY cJ cQ _ ad tn td lf cn k) (cwV 1 hts gX10_pledge_X10_isCrate rfl rfl rfl ⟨rfl, cdX10_isCrate⟩ ⟨Nat.le_of_ble_eq_true rfl, Nat.le_of_ble_eq_true rfl⟩) (cPreV (hP.sub [0, 1] rfl) hK (hD.sub [0, 1] (by decide +kernel) rfl) hN (ci := 10) (q0 := 0) rfl rfl) rfl rfl hl.1 rfl (lv_room (Nat.le_of_ble_eq_true rfl)) dX10_pledge_2 ⟨Nat.le_of_ble_eq_true rfl, Nat.le_of_ble_eq_true rfl⟩) hP hD hS hA [0, 1] rfl (fun _ => rfl) (fun r3 u1 H locs hw2 => ?_)
  clear hP hS
  intro hP hS
  replace hw2 : r3 = if 0 ≤ k.toInt ∧ k.toInt < cn.toInt then 1 else 0 := hw2
  refine lv_if_eq (tgt := 35) hx hb dX10_pledge_5 (by decide) (fun c4 => ?_) (fun c4 => ?_)
  · skip
    have f5 := bo_f hw2 c4
    refine lv_ldc hx hb hown (hts (Cond.constant RX10 89 (-1000001)) (wm_t (wm_l (wm_i 1 rfl)))) dX10_pledge_35 ?_
    have hP9 := hP
    have hD9 := hD
    exact W.iret (v := (-1000001)) hx hb hr (fun t ht hW => ⟨⟨(-1000001), (gn, gk, gs, gd, ge), rfl, (by unfold sp_pledge; (repeat' split) <;> first | rfl | (exfalso; omega) | (subst_vars; rfl)), by rw [ht]; exact hP9, va_K.moved hW.alike hK, hD9⟩, hS.F ht⟩) hS.2.2 dX10_pledge_37
  · skip
    have f6 := bo_t hw2 c4
    refine lv_iload_n hx hb dX10_pledge_8 rfl (lv_at hl 2 rfl) ?_
    refine st_i1 (va_runS (As := [.int x]) (rest := []) ⟨hx, hb, hml, hown, hts⟩ (ct_X10_isPerson l D cI cY cJ cQ _ x) (va_cwS 1 hts gX10_pledge_X10_isPerson rfl rfl rfl cdX10_isPerson ⟨Nat.le_of_ble_eq_true rfl, Nat.le_of_ble_eq_true rfl⟩) (cPreS (hP.sub [] rfl) hK (hD.sub [] (by decide +kernel) rfl) hN) rfl rfl hl.1 rfl (lv_room (Nat.le_of_ble_eq_true rfl)) dX10_pledge_9 ⟨Nat.le_of_ble_eq_true rfl, Nat.le_of_ble_eq_true rfl⟩) hP hD hS hA [] rfl (fun _ => rfl) (fun r9 u7 H locs hw8 => ?_)
    clear hP hS
    intro hP hS
    replace hw8 : r9 = if 0 ≤ x.toInt ∧ x.toInt < 10 then 1 else 0 := hw8
    refine lv_if_eq (tgt := 35) hx hb dX10_pledge_12 (by decide) (fun c10 => ?_) (fun c10 => ?_)
    · skip
      have f11 := bo_f hw8 c10
      refine lv_ldc hx hb hown (hts (Cond.constant RX10 89 (-1000001)) (wm_t (wm_l (wm_i 1 rfl)))) dX10_pledge_35 ?_
      have hP9 := hP
      have hD9 := hD
      exact W.iret (v := (-1000001)) hx hb hr (fun t ht hW => ⟨⟨(-1000001), (gn, gk, gs, gd, ge), rfl, (by unfold sp_pledge; (repeat' split) <;> first | rfl | (exfalso; omega) | (subst_vars; rfl)), by rw [ht]; exact hP9, va_K.moved hW.alike hK, hD9⟩, hS.F ht⟩) hS.2.2 dX10_pledge_37
    · skip
      have f12 := bo_t hw8 c10
      refine lv_iload_n hx hb dX10_pledge_15 rfl (lv_at hl 3 rfl) ?_
      refine lv_iconst (v := 1) hx hb dX10_pledge_16 (by decide) ?_
      refine lv_ldc hx hb hown (hts (Cond.constant RX10 176 (100000)) (wm_t (wm_l (wm_i 0 rfl)))) dX10_pledge_17 ?_
      refine st_i1 (va_runS (As := [.int q, .int 1, .int 100000]) (rest := []) ⟨hx, hb, hml, hown, hts⟩ (ct_X10_isFrom l D cI cY cJ cQ _ q (1 : Int32) (100000 : Int32)) (va_cwS 3 hts gX10_pledge_X10_isFrom rfl rfl rfl cdX10_isFrom ⟨Nat.le_of_ble_eq_true rfl, Nat.le_of_ble_eq_true rfl⟩) (cPreS (hP.sub [] rfl) hK (hD.sub [] (by decide +kernel) rfl) hN) rfl rfl hl.1 rfl (lv_room (Nat.le_of_ble_eq_true rfl)) dX10_pledge_19 ⟨Nat.le_of_ble_eq_true rfl, Nat.le_of_ble_eq_true rfl⟩) hP hD hS hA [] rfl (fun _ => rfl) (fun r15 u13 H locs hw14 => ?_)
      clear hP hS
      intro hP hS
      replace hw14 : r15 = if (1 : Int32).toInt ≤ q.toInt ∧ q.toInt ≤ (100000 : Int32).toInt then 1 else 0 := hw14
      refine lv_if_eq (tgt := 35) hx hb dX10_pledge_22 (by decide) (fun c16 => ?_) (fun c16 => ?_)
      · skip
        have f17 := bo_f hw14 c16
        refine lv_ldc hx hb hown (hts (Cond.constant RX10 89 (-1000001)) (wm_t (wm_l (wm_i 1 rfl)))) dX10_pledge_35 ?_
        have hP9 := hP
        have hD9 := hD
        exact W.iret (v := (-1000001)) hx hb hr (fun t ht hW => ⟨⟨(-1000001), (gn, gk, gs, gd, ge), rfl, (by unfold sp_pledge; (repeat' split) <;> first | rfl | (exfalso; omega) | (subst_vars; rfl)), by rw [ht]; exact hP9, va_K.moved hW.alike hK, hD9⟩, hS.F ht⟩) hS.2.2 dX10_pledge_37
      · skip
        have f18 := bo_t hw14 c16
        refine lv_iload hx hb dX10_pledge_25 (lv_at hl 4 rfl) ?_
        refine lv_iload hx hb dX10_pledge_27 (lv_at hl 5 rfl) ?_
        refine st_i1 (va_runS (As := [.int a, .int b]) (rest := []) ⟨hx, hb, hml, hown, hts⟩ (ct_X10_areDays l D cI cY cJ cQ _ a b) (va_cwS 2 hts gX10_pledge_X10_areDays rfl rfl rfl cdX10_areDays ⟨Nat.le_of_ble_eq_true rfl, Nat.le_of_ble_eq_true rfl⟩) (cPreS (hP.sub [] rfl) hK (hD.sub [] (by decide +kernel) rfl) hN) rfl rfl hl.1 rfl (lv_room (Nat.le_of_ble_eq_true rfl)) dX10_pledge_29 ⟨Nat.le_of_ble_eq_true rfl, Nat.le_of_ble_eq_true rfl⟩) hP hD hS hA [] rfl (fun _ => rfl) (fun r21 u19 H locs hw20 => ?_)
        clear hP hS
        intro hP hS
        replace hw20 : r21 = if 0 ≤ a.toInt ∧ b.toInt < 10000 ∧ a.toInt ≤ b.toInt then 1 else 0 := hw20
        refine lv_if_ne (tgt := 38) hx hb dX10_pledge_32 (by decide) (fun c22 => ?_) (fun c22 => ?_)
        · skip
          have f23 := bo_t hw20 c22
          refine lv_aload_n hx hb dX10_pledge_38 rfl (lv_at hl 0 rfl) ?_
          refine va_get (D := D) (ci := 10) (v := .ref (ad 5)) (C := RX10) (T := TX10) (N := 14) hx hb hts inX10_pledge_X10 hown hK hP 0 rfl rfl 4 (by decide) (hts (Cond.fieldLink RX10 40 "PortRooms" "pledges" "LPortRooms$Pledges;") (wm_t (wm_l (wm_i 2 rfl)))) (fun _ h9 => h9) rfl dX10_pledge_39 ?_
          refine va_get (D := D) (ci := 8) (v := .int gn) (C := RX8) (T := TX8) (N := 6) hx hb hts inX10_pledge_X8 hown hK hP 2 rfl rfl 4 (by decide) (hts (Cond.fieldLink RX10 199 "PortRooms$Pledges" "count" "I") (wm_t (wm_l (wm_i 3 rfl)))) (fun _ h9 => h9) rfl dX10_pledge_42 ?_
          refine lv_bipush (v := 40) hx hb dX10_pledge_45 (by decide) ?_
          refine lv_icmp_lt (tgt := 53) hx hb dX10_pledge_47 (by decide) (fun c24 => ?_) (fun c24 => ?_)
          · skip
            have f25 := i_lt c24
            refine lv_aload_n hx hb dX10_pledge_53 rfl (lv_at hl 0 rfl) ?_
            refine va_get (D := D) (ci := 10) (v := .ref (ad 5)) (C := RX10) (T := TX10) (N := 14) hx hb hts inX10_pledge_X10 hown hK hP 0 rfl rfl 4 (by decide) (hts (Cond.fieldLink RX10 40 "PortRooms" "pledges" "LPortRooms$Pledges;") (wm_t (wm_l (wm_i 2 rfl)))) (fun _ h9 => h9) rfl dX10_pledge_54 ?_
            refine lv_iload_n hx hb dX10_pledge_57 rfl (lv_at hl 1 rfl) ?_
            refine lv_iload_n hx hb dX10_pledge_58 rfl (lv_at hl 3 rfl) ?_
            refine lv_iload hx hb dX10_pledge_59 (lv_at hl 4 rfl) ?_
            refine lv_iload hx hb dX10_pledge_61 (lv_at hl 5 rfl) ?_
            refine st_i (wr := [(oC10 ad tn td lf), (oC1 ad cn)]) (va_runV (C := RX8) (As := [.int k, .int q, .int a, .int b]) (rest := []) ⟨hx, hb, hml, hown, hts⟩ (ct_X8_tell l D cI cY cJ cQ _ ad gn gk gs gd ge k q a b h1 (by omega)) (cwV 4 hts gX10_pledge_X8_tell rfl rfl rfl ⟨rfl, cdX8_tell⟩ ⟨Nat.le_of_ble_eq_true rfl, Nat.le_of_ble_eq_true rfl⟩) (cPreV (hP.sub [2, 3, 4, 5, 6] rfl) hK (hD.sub [2, 3, 4, 5, 6] (by decide +kernel) rfl) hN (ci := 8) (q0 := 0) rfl rfl) rfl rfl hl.1 rfl (lv_room (Nat.le_of_ble_eq_true rfl)) dX10_pledge_63 ⟨Nat.le_of_ble_eq_true rfl, Nat.le_of_ble_eq_true rfl⟩) hP hD hS hA [2, 3, 4, 5, 6] [0, 1] rfl rfl (by decide +kernel) (by decide +kernel) (fun r28 u26 H locs hw27 => ?_)
            clear hP hD hS
            intro hP hD hS
            replace hw27 : r28 = gn + 1 - 1 := hw27
            replace hP : va_P D vwCl [(oC10 ad tn td lf), (oC1 ad cn), (oC8 ad (gn + 1)), (aI cI (ad 42) 40 (upd gk gn.toNatClampNeg k)), (aI cI (ad 43) 40 (upd gs gn.toNatClampNeg q)), (aI cI (ad 44) 40 (upd gd gn.toNatClampNeg a)), (aI cI (ad 45) 40 (upd ge gn.toNatClampNeg b))] H := hP
            replace hD : va_D A [(oC10 ad tn td lf), (oC1 ad cn), (oC8 ad (gn + 1)), (aI cI (ad 42) 40 (upd gk gn.toNatClampNeg k)), (aI cI (ad 43) 40 (upd gs gn.toNatClampNeg q)), (aI cI (ad 44) 40 (upd gd gn.toNatClampNeg a)), (aI cI (ad 45) 40 (upd ge gn.toNatClampNeg b))] := hD
            subst hw27
            have hP9 := hP
            have hD9 := hD
            exact W.iret (v := gn + 1 - 1) hx hb hr (fun t ht hW => ⟨⟨gn + 1 - 1, (gn + 1, upd gk gn.toNatClampNeg k, upd gs gn.toNatClampNeg q, upd gd gn.toNatClampNeg a, upd ge gn.toNatClampNeg b), rfl, (by unfold sp_pledge; (repeat' split) <;> first | rfl | (exfalso; omega) | (subst_vars; rfl)), by rw [ht]; exact hP9, va_K.moved hW.alike hK, hD9⟩, hS.F ht⟩) hS.2.2 dX10_pledge_66
          · skip
            have f29 := i_nlt c24
            refine lv_ldc hx hb hown (hts (Cond.constant RX10 145 (-1000003)) (wm_t (wm_l (wm_i 4 rfl)))) dX10_pledge_50 ?_
            have hP9 := hP
            have hD9 := hD
            exact W.iret (v := (-1000003)) hx hb hr (fun t ht hW => ⟨⟨(-1000003), (gn, gk, gs, gd, ge), rfl, (by unfold sp_pledge; (repeat' split) <;> first | rfl | (exfalso; omega) | (subst_vars; rfl)), by rw [ht]; exact hP9, va_K.moved hW.alike hK, hD9⟩, hS.F ht⟩) hS.2.2 dX10_pledge_52
        · skip
          have f30 := bo_f hw20 c22
          refine lv_ldc hx hb hown (hts (Cond.constant RX10 89 (-1000001)) (wm_t (wm_l (wm_i 1 rfl)))) dX10_pledge_35 ?_
          have hP9 := hP
          have hD9 := hD
          exact W.iret (v := (-1000001)) hx hb hr (fun t ht hW => ⟨⟨(-1000001), (gn, gk, gs, gd, ge), rfl, (by unfold sp_pledge; (repeat' split) <;> first | rfl | (exfalso; omega) | (subst_vars; rfl)), by rw [ht]; exact hP9, va_K.moved hW.alike hK, hD9⟩, hS.F ht⟩) hS.2.2 dX10_pledge_37

def sp_act (an : Int32) (ak ah ay az : Nat → Int32) (cn k w d n : Int32) : Int32 × Int32 × (Nat → Int32) × (Nat → Int32) × (Nat → Int32) × (Nat → Int32) := if 0 ≤ k.toInt ∧ k.toInt < cn.toInt ∧ 0 ≤ w.toInt ∧ w.toInt < 4 ∧ 0 ≤ d.toInt ∧ d.toInt < 10000 ∧ 0 ≤ n.toInt ∧ n.toInt ≤ 999 then (if 60 ≤ an.toInt then (-1000003, an, ak, ah, ay, az) else (an + 1, an + 1, upd ak an.toNatClampNeg k, upd ah an.toNatClampNeg w, upd ay an.toNatClampNeg d, upd az an.toNatClampNeg n)) else (-1000001, an, ak, ah, ay, az)

set_option maxHeartbeats 4000000 in
set_option maxRecDepth 100000 in
theorem ct_X10_act (l : Launch) (D : va_G) (cI cY cJ cQ : ClassId) (sz : Nat) (ad : Nat → Nat) (tn td lf cn an : Int32) (ak ah ay az : Nat → Int32) (k : Int32) (w : Int32) (d : Int32) (n : Int32)  (h1 : 0 ≤ an.toInt) (h2 : an.toInt ≤ 60)  : Met l yX10_act wsX10_act ({ frames := 2, cells := 0, slots := 0, locals := 42 }) (cPre D (ty4 cI cY cJ cQ) [(oC10 ad tn td lf), (oC1 ad cn), (oC0 ad an), (aI cI (ad 54) 60 ak), (aI cI (ad 55) 60 ah), (aI cI (ad 56) 60 ay), (aI cI (ad 57) 60 az)] sz [.ref (ad 0), .int k, .int w, .int d, .int n]) (va_Qi (fun (r : Int32) (u : Int32 × (Nat → Int32) × (Nat → Int32) × (Nat → Int32) × (Nat → Int32)) => (r, u) = sp_act an ak ah ay az cn k w d n) (cB D (ty4 cI cY cJ cQ) (fun (u : Int32 × (Nat → Int32) × (Nat → Int32) × (Nat → Int32) × (Nat → Int32)) => [(oC10 ad tn td lf), (oC1 ad cn), (oC0 ad u.1), (aI cI (ad 54) 60 u.2.1), (aI cI (ad 55) 60 u.2.2.1), (aI cI (ad 56) 60 u.2.2.2.1), (aI cI (ad 57) 60 u.2.2.2.2)]) (va_A [(oC10 ad tn td lf), (oC1 ad cn), (oC0 ad an), (aI cI (ad 54) 60 ak), (aI cI (ad 55) 60 ah), (aI cI (ad 56) 60 ay), (aI cI (ad 57) 60 az)] sz)) (va_A [(oC10 ad tn td lf), (oC1 ad cn), (oC0 ad an), (aI cI (ad 54) 60 ak), (aI cI (ad 55) 60 ah), (aI cI (ad 56) 60 ay), (aI cI (ad 57) 60 az)] sz)) 0 0 (va_A [(oC10 ad tn td lf), (oC1 ad cn), (oC0 ad an), (aI cI (ad 54) 60 ak), (aI cI (ad 55) 60 ah), (aI cI (ad 56) 60 ay), (aI cI (ad 57) 60 az)] sz) := by
  refine Met.ofW (cc := cX10_act) (maxL := 5) (ret := (some .int)) (by decide) rfl ?_
  intro p e s m args below meth c s₁ B hml hv
  obtain ⟨rfl, hsz, hP, hK, hD0, hN⟩ := hv
  have hx := B.exec
  have hb := B.bytes
  have hr := B.returns
  have hts := atoms_spec (ws := wsX10_act) B.pre
  have hown : s.vm.findClass RX10 = some m.cls := findClass_of_methodNamed B.named
  have hlocks := B.notSynchronized
  subst hsz
  have hD := hD0.self (sz := s.heap.size)
  generalize hAe : va_A [(oC10 ad tn td lf), (oC1 ad cn), (oC0 ad an), (aI cI (ad 54) 60 ak), (aI cI (ad 55) 60 ah), (aI cI (ad 56) 60 ay), (aI cI (ad 57) 60 az)] s.heap.size = A at hD ⊢
  have hA : ∀ q : Nat, s.heap.size ≤ q → A q := fun q h => by rw [← hAe]; exact Or.inr h
  have hS : va_S A s.heap s.heap [] := va_S.rf
  have hP : va_P D vwCl [(oC10 ad tn td lf), (oC1 ad cn), (oC0 ad an), (aI cI (ad 54) 60 ak), (aI cI (ad 55) 60 ah), (aI cI (ad 56) 60 ay), (aI cI (ad 57) 60 az)] s.heap := hP
  have hl := lv_entry ([.ref (ad 0), .int k, .int w, .int d, .int n]) (n := 5) (Nat.le_of_ble_eq_true rfl)
  rw [lg_entry_eq]
  generalize (lg_sl ([.ref (ad 0), .int k, .int w, .int d, .int n]) ++ List.replicate (5 - (lg_sl ([.ref (ad 0), .int k, .int w, .int d, .int n])).length) Slot.unset).toArray = ls at hl ⊢
  have hl : lv_has ls 5 [(0, .ref (ad 0)), (1, .int k), (2, .int w), (3, .int d), (4, .int n)] := hl
  have km1000003 : (-1000003 : Int32).toInt = -1000003 := by decide
  have km1000001 : (-1000001 : Int32).toInt = -1000001 := by decide
  have k0 : (0 : Int32).toInt = 0 := by decide
  have k4 : (4 : Int32).toInt = 4 := by decide
  have k60 : (60 : Int32).toInt = 60 := by decide
  have k999 : (999 : Int32).toInt = 999 := by decide
  refine lv_aload_n hx hb dX10_act_0 rfl (lv_at hl 0 rfl) ?_
  refine lv_iload_n hx hb dX10_act_1 rfl (lv_at hl 1 rfl) ?_
  refine st_i1 (va_runV (C := RX10) (As := [.int k]) (rest := []) ⟨hx, hb, hml, hown, hts⟩ (ct_X10_isCrate l D cI cY cJ cQ _ ad tn td lf cn k) (cwV 1 hts gX10_act_X10_isCrate rfl rfl rfl ⟨rfl, cdX10_isCrate⟩ ⟨Nat.le_of_ble_eq_true rfl, Nat.le_of_ble_eq_true rfl⟩) (cPreV (hP.sub [0, 1] rfl) hK (hD.sub [0, 1] (by decide +kernel) rfl) hN (ci := 10) (q0 := 0) rfl rfl) rfl rfl hl.1 rfl (lv_room (Nat.le_of_ble_eq_true rfl)) dX10_act_2 ⟨Nat.le_of_ble_eq_true rfl, Nat.le_of_ble_eq_true rfl⟩) hP hD hS hA [0, 1] rfl (fun _ => rfl) (fun r3 u1 H locs hw2 => ?_)
  clear hP hS
  intro hP hS
  replace hw2 : r3 = if 0 ≤ k.toInt ∧ k.toInt < cn.toInt then 1 else 0 := hw2
  refine lv_if_eq (tgt := 35) hx hb dX10_act_5 (by decide) (fun c4 => ?_) (fun c4 => ?_)
  · skip
    have f5 := bo_f hw2 c4
    refine lv_ldc hx hb hown (hts (Cond.constant RX10 89 (-1000001)) (wm_t (wm_l (wm_i 0 rfl)))) dX10_act_35 ?_
    have hP9 := hP
    have hD9 := hD
    exact W.iret (v := (-1000001)) hx hb hr (fun t ht hW => ⟨⟨(-1000001), (an, ak, ah, ay, az), rfl, (by unfold sp_act; (repeat' split) <;> first | rfl | (exfalso; omega) | (subst_vars; rfl)), by rw [ht]; exact hP9, va_K.moved hW.alike hK, hD9⟩, hS.F ht⟩) hS.2.2 dX10_act_37
  · skip
    have f6 := bo_t hw2 c4
    refine lv_iload_n hx hb dX10_act_8 rfl (lv_at hl 2 rfl) ?_
    refine lv_iconst (v := 4) hx hb dX10_act_9 (by decide) ?_
    refine st_i1 (va_runS (As := [.int w, .int 4]) (rest := []) ⟨hx, hb, hml, hown, hts⟩ (ct_X10_isBelow l D cI cY cJ cQ _ w (4 : Int32)) (va_cwS 2 hts gX10_act_X10_isBelow rfl rfl rfl cdX10_isBelow ⟨Nat.le_of_ble_eq_true rfl, Nat.le_of_ble_eq_true rfl⟩) (cPreS (hP.sub [] rfl) hK (hD.sub [] (by decide +kernel) rfl) hN) rfl rfl hl.1 rfl (lv_room (Nat.le_of_ble_eq_true rfl)) dX10_act_10 ⟨Nat.le_of_ble_eq_true rfl, Nat.le_of_ble_eq_true rfl⟩) hP hD hS hA [] rfl (fun _ => rfl) (fun r9 u7 H locs hw8 => ?_)
    clear hP hS
    intro hP hS
    replace hw8 : r9 = if 0 ≤ w.toInt ∧ w.toInt < (4 : Int32).toInt then 1 else 0 := hw8
    refine lv_if_eq (tgt := 35) hx hb dX10_act_13 (by decide) (fun c10 => ?_) (fun c10 => ?_)
    · skip
      have f11 := bo_f hw8 c10
      refine lv_ldc hx hb hown (hts (Cond.constant RX10 89 (-1000001)) (wm_t (wm_l (wm_i 0 rfl)))) dX10_act_35 ?_
      have hP9 := hP
      have hD9 := hD
      exact W.iret (v := (-1000001)) hx hb hr (fun t ht hW => ⟨⟨(-1000001), (an, ak, ah, ay, az), rfl, (by unfold sp_act; (repeat' split) <;> first | rfl | (exfalso; omega) | (subst_vars; rfl)), by rw [ht]; exact hP9, va_K.moved hW.alike hK, hD9⟩, hS.F ht⟩) hS.2.2 dX10_act_37
    · skip
      have f12 := bo_t hw8 c10
      refine lv_iload_n hx hb dX10_act_16 rfl (lv_at hl 3 rfl) ?_
      refine st_i1 (va_runS (As := [.int d]) (rest := []) ⟨hx, hb, hml, hown, hts⟩ (ct_X10_isDay l D cI cY cJ cQ _ d) (va_cwS 1 hts gX10_act_X10_isDay rfl rfl rfl cdX10_isDay ⟨Nat.le_of_ble_eq_true rfl, Nat.le_of_ble_eq_true rfl⟩) (cPreS (hP.sub [] rfl) hK (hD.sub [] (by decide +kernel) rfl) hN) rfl rfl hl.1 rfl (lv_room (Nat.le_of_ble_eq_true rfl)) dX10_act_17 ⟨Nat.le_of_ble_eq_true rfl, Nat.le_of_ble_eq_true rfl⟩) hP hD hS hA [] rfl (fun _ => rfl) (fun r15 u13 H locs hw14 => ?_)
      clear hP hS
      intro hP hS
      replace hw14 : r15 = if 0 ≤ d.toInt ∧ d.toInt < 10000 then 1 else 0 := hw14
      refine lv_if_eq (tgt := 35) hx hb dX10_act_20 (by decide) (fun c16 => ?_) (fun c16 => ?_)
      · skip
        have f17 := bo_f hw14 c16
        refine lv_ldc hx hb hown (hts (Cond.constant RX10 89 (-1000001)) (wm_t (wm_l (wm_i 0 rfl)))) dX10_act_35 ?_
        have hP9 := hP
        have hD9 := hD
        exact W.iret (v := (-1000001)) hx hb hr (fun t ht hW => ⟨⟨(-1000001), (an, ak, ah, ay, az), rfl, (by unfold sp_act; (repeat' split) <;> first | rfl | (exfalso; omega) | (subst_vars; rfl)), by rw [ht]; exact hP9, va_K.moved hW.alike hK, hD9⟩, hS.F ht⟩) hS.2.2 dX10_act_37
      · skip
        have f18 := bo_t hw14 c16
        refine lv_iload hx hb dX10_act_23 (lv_at hl 4 rfl) ?_
        refine lv_iconst (v := 0) hx hb dX10_act_25 (by decide) ?_
        refine lv_sipush (v := 999) hx hb dX10_act_26 (by decide) ?_
        refine st_i1 (va_runS (As := [.int n, .int 0, .int 999]) (rest := []) ⟨hx, hb, hml, hown, hts⟩ (ct_X10_isFrom l D cI cY cJ cQ _ n (0 : Int32) (999 : Int32)) (va_cwS 3 hts gX10_act_X10_isFrom rfl rfl rfl cdX10_isFrom ⟨Nat.le_of_ble_eq_true rfl, Nat.le_of_ble_eq_true rfl⟩) (cPreS (hP.sub [] rfl) hK (hD.sub [] (by decide +kernel) rfl) hN) rfl rfl hl.1 rfl (lv_room (Nat.le_of_ble_eq_true rfl)) dX10_act_29 ⟨Nat.le_of_ble_eq_true rfl, Nat.le_of_ble_eq_true rfl⟩) hP hD hS hA [] rfl (fun _ => rfl) (fun r21 u19 H locs hw20 => ?_)
        clear hP hS
        intro hP hS
        replace hw20 : r21 = if (0 : Int32).toInt ≤ n.toInt ∧ n.toInt ≤ (999 : Int32).toInt then 1 else 0 := hw20
        refine lv_if_ne (tgt := 38) hx hb dX10_act_32 (by decide) (fun c22 => ?_) (fun c22 => ?_)
        · skip
          have f23 := bo_t hw20 c22
          refine lv_aload_n hx hb dX10_act_38 rfl (lv_at hl 0 rfl) ?_
          refine va_get (D := D) (ci := 10) (v := .ref (ad 7)) (C := RX10) (T := TX10) (N := 14) hx hb hts inX10_act_X10 hown hK hP 0 rfl rfl 6 (by decide) (hts (Cond.fieldLink RX10 54 "PortRooms" "acts" "LPortRooms$Acts;") (wm_t (wm_l (wm_i 1 rfl)))) (fun _ h9 => h9) rfl dX10_act_39 ?_
          refine va_get (D := D) (ci := 0) (v := .int an) (C := RX0) (T := TX0) (N := 5) hx hb hts inX10_act_X0 hown hK hP 2 rfl rfl 4 (by decide) (hts (Cond.fieldLink RX10 227 "PortRooms$Acts" "count" "I") (wm_t (wm_l (wm_i 2 rfl)))) (fun _ h9 => h9) rfl dX10_act_42 ?_
          refine lv_bipush (v := 60) hx hb dX10_act_45 (by decide) ?_
          refine lv_icmp_lt (tgt := 53) hx hb dX10_act_47 (by decide) (fun c24 => ?_) (fun c24 => ?_)
          · skip
            have f25 := i_lt c24
            refine lv_aload_n hx hb dX10_act_53 rfl (lv_at hl 0 rfl) ?_
            refine va_get (D := D) (ci := 10) (v := .ref (ad 7)) (C := RX10) (T := TX10) (N := 14) hx hb hts inX10_act_X10 hown hK hP 0 rfl rfl 6 (by decide) (hts (Cond.fieldLink RX10 54 "PortRooms" "acts" "LPortRooms$Acts;") (wm_t (wm_l (wm_i 1 rfl)))) (fun _ h9 => h9) rfl dX10_act_54 ?_
            refine lv_iload_n hx hb dX10_act_57 rfl (lv_at hl 1 rfl) ?_
            refine lv_iload_n hx hb dX10_act_58 rfl (lv_at hl 2 rfl) ?_
            refine lv_iload_n hx hb dX10_act_59 rfl (lv_at hl 3 rfl) ?_
            refine lv_iload hx hb dX10_act_60 (lv_at hl 4 rfl) ?_
            refine st_i (wr := [(oC10 ad tn td lf), (oC1 ad cn)]) (va_runV (C := RX0) (As := [.int k, .int w, .int d, .int n]) (rest := []) ⟨hx, hb, hml, hown, hts⟩ (ct_X0_tell l D cI cY cJ cQ _ ad an ak ah ay az k w d n h1 (by omega)) (cwV 4 hts gX10_act_X0_tell rfl rfl rfl ⟨rfl, cdX0_tell⟩ ⟨Nat.le_of_ble_eq_true rfl, Nat.le_of_ble_eq_true rfl⟩) (cPreV (hP.sub [2, 3, 4, 5, 6] rfl) hK (hD.sub [2, 3, 4, 5, 6] (by decide +kernel) rfl) hN (ci := 0) (q0 := 0) rfl rfl) rfl rfl hl.1 rfl (lv_room (Nat.le_of_ble_eq_true rfl)) dX10_act_62 ⟨Nat.le_of_ble_eq_true rfl, Nat.le_of_ble_eq_true rfl⟩) hP hD hS hA [2, 3, 4, 5, 6] [0, 1] rfl rfl (by decide +kernel) (by decide +kernel) (fun r28 u26 H locs hw27 => ?_)
            clear hP hD hS
            intro hP hD hS
            replace hw27 : r28 = an + 1 := hw27
            replace hP : va_P D vwCl [(oC10 ad tn td lf), (oC1 ad cn), (oC0 ad (an + 1)), (aI cI (ad 54) 60 (upd ak an.toNatClampNeg k)), (aI cI (ad 55) 60 (upd ah an.toNatClampNeg w)), (aI cI (ad 56) 60 (upd ay an.toNatClampNeg d)), (aI cI (ad 57) 60 (upd az an.toNatClampNeg n))] H := hP
            replace hD : va_D A [(oC10 ad tn td lf), (oC1 ad cn), (oC0 ad (an + 1)), (aI cI (ad 54) 60 (upd ak an.toNatClampNeg k)), (aI cI (ad 55) 60 (upd ah an.toNatClampNeg w)), (aI cI (ad 56) 60 (upd ay an.toNatClampNeg d)), (aI cI (ad 57) 60 (upd az an.toNatClampNeg n))] := hD
            subst hw27
            have hP9 := hP
            have hD9 := hD
            exact W.iret (v := an + 1) hx hb hr (fun t ht hW => ⟨⟨an + 1, (an + 1, upd ak an.toNatClampNeg k, upd ah an.toNatClampNeg w, upd ay an.toNatClampNeg d, upd az an.toNatClampNeg n), rfl, (by unfold sp_act; (repeat' split) <;> first | rfl | (exfalso; omega) | (subst_vars; rfl)), by rw [ht]; exact hP9, va_K.moved hW.alike hK, hD9⟩, hS.F ht⟩) hS.2.2 dX10_act_65
          · skip
            have f29 := i_nlt c24
            refine lv_ldc hx hb hown (hts (Cond.constant RX10 145 (-1000003)) (wm_t (wm_l (wm_i 3 rfl)))) dX10_act_50 ?_
            have hP9 := hP
            have hD9 := hD
            exact W.iret (v := (-1000003)) hx hb hr (fun t ht hW => ⟨⟨(-1000003), (an, ak, ah, ay, az), rfl, (by unfold sp_act; (repeat' split) <;> first | rfl | (exfalso; omega) | (subst_vars; rfl)), by rw [ht]; exact hP9, va_K.moved hW.alike hK, hD9⟩, hS.F ht⟩) hS.2.2 dX10_act_52
        · skip
          have f30 := bo_f hw20 c22
          refine lv_ldc hx hb hown (hts (Cond.constant RX10 89 (-1000001)) (wm_t (wm_l (wm_i 0 rfl)))) dX10_act_35 ?_
          have hP9 := hP
          have hD9 := hD
          exact W.iret (v := (-1000001)) hx hb hr (fun t ht hW => ⟨⟨(-1000001), (an, ak, ah, ay, az), rfl, (by unfold sp_act; (repeat' split) <;> first | rfl | (exfalso; omega) | (subst_vars; rfl)), by rw [ht]; exact hP9, va_K.moved hW.alike hK, hD9⟩, hS.F ht⟩) hS.2.2 dX10_act_37

def sp_opened (un : Int32) (uk uy uw um : Nat → Int32) (cn k d w q : Int32) : Int32 × Int32 × (Nat → Int32) × (Nat → Int32) × (Nat → Int32) × (Nat → Int32) := if 0 ≤ k.toInt ∧ k.toInt < cn.toInt ∧ 0 ≤ d.toInt ∧ d.toInt < 10000 ∧ 1 ≤ w.toInt ∧ w.toInt ≤ 100000 ∧ 0 ≤ q.toInt ∧ q.toInt ≤ 255 then (if 60 ≤ un.toInt then (-1000003, un, uk, uy, uw, um) else (un + 1, un + 1, upd uk un.toNatClampNeg k, upd uy un.toNatClampNeg d, upd uw un.toNatClampNeg w, upd um un.toNatClampNeg q)) else (-1000001, un, uk, uy, uw, um)

set_option maxHeartbeats 4000000 in
set_option maxRecDepth 100000 in
theorem ct_X10_opened (l : Launch) (D : va_G) (cI cY cJ cQ : ClassId) (sz : Nat) (ad : Nat → Nat) (tn td lf cn un : Int32) (uk uy uw um : Nat → Int32) (k : Int32) (d : Int32) (w : Int32) (q : Int32)  (h1 : 0 ≤ un.toInt) (h2 : un.toInt ≤ 60)  : Met l yX10_opened wsX10_opened ({ frames := 2, cells := 0, slots := 0, locals := 42 }) (cPre D (ty4 cI cY cJ cQ) [(oC10 ad tn td lf), (oC1 ad cn), (oC6 ad un), (aI cI (ad 59) 60 uk), (aI cI (ad 60) 60 uy), (aI cI (ad 61) 60 uw), (aI cI (ad 62) 60 um)] sz [.ref (ad 0), .int k, .int d, .int w, .int q]) (va_Qi (fun (r : Int32) (u : Int32 × (Nat → Int32) × (Nat → Int32) × (Nat → Int32) × (Nat → Int32)) => (r, u) = sp_opened un uk uy uw um cn k d w q) (cB D (ty4 cI cY cJ cQ) (fun (u : Int32 × (Nat → Int32) × (Nat → Int32) × (Nat → Int32) × (Nat → Int32)) => [(oC10 ad tn td lf), (oC1 ad cn), (oC6 ad u.1), (aI cI (ad 59) 60 u.2.1), (aI cI (ad 60) 60 u.2.2.1), (aI cI (ad 61) 60 u.2.2.2.1), (aI cI (ad 62) 60 u.2.2.2.2)]) (va_A [(oC10 ad tn td lf), (oC1 ad cn), (oC6 ad un), (aI cI (ad 59) 60 uk), (aI cI (ad 60) 60 uy), (aI cI (ad 61) 60 uw), (aI cI (ad 62) 60 um)] sz)) (va_A [(oC10 ad tn td lf), (oC1 ad cn), (oC6 ad un), (aI cI (ad 59) 60 uk), (aI cI (ad 60) 60 uy), (aI cI (ad 61) 60 uw), (aI cI (ad 62) 60 um)] sz)) 0 0 (va_A [(oC10 ad tn td lf), (oC1 ad cn), (oC6 ad un), (aI cI (ad 59) 60 uk), (aI cI (ad 60) 60 uy), (aI cI (ad 61) 60 uw), (aI cI (ad 62) 60 um)] sz) := by
  refine Met.ofW (cc := cX10_opened) (maxL := 5) (ret := (some .int)) (by decide) rfl ?_
  intro p e s m args below meth c s₁ B hml hv
  obtain ⟨rfl, hsz, hP, hK, hD0, hN⟩ := hv
  have hx := B.exec
  have hb := B.bytes
  have hr := B.returns
  have hts := atoms_spec (ws := wsX10_opened) B.pre
  have hown : s.vm.findClass RX10 = some m.cls := findClass_of_methodNamed B.named
  have hlocks := B.notSynchronized
  subst hsz
  have hD := hD0.self (sz := s.heap.size)
  generalize hAe : va_A [(oC10 ad tn td lf), (oC1 ad cn), (oC6 ad un), (aI cI (ad 59) 60 uk), (aI cI (ad 60) 60 uy), (aI cI (ad 61) 60 uw), (aI cI (ad 62) 60 um)] s.heap.size = A at hD ⊢
  have hA : ∀ q : Nat, s.heap.size ≤ q → A q := fun q h => by rw [← hAe]; exact Or.inr h
  have hS : va_S A s.heap s.heap [] := va_S.rf
  have hP : va_P D vwCl [(oC10 ad tn td lf), (oC1 ad cn), (oC6 ad un), (aI cI (ad 59) 60 uk), (aI cI (ad 60) 60 uy), (aI cI (ad 61) 60 uw), (aI cI (ad 62) 60 um)] s.heap := hP
  have hl := lv_entry ([.ref (ad 0), .int k, .int d, .int w, .int q]) (n := 5) (Nat.le_of_ble_eq_true rfl)
  rw [lg_entry_eq]
  generalize (lg_sl ([.ref (ad 0), .int k, .int d, .int w, .int q]) ++ List.replicate (5 - (lg_sl ([.ref (ad 0), .int k, .int d, .int w, .int q])).length) Slot.unset).toArray = ls at hl ⊢
  have hl : lv_has ls 5 [(0, .ref (ad 0)), (1, .int k), (2, .int d), (3, .int w), (4, .int q)] := hl
  have km1000003 : (-1000003 : Int32).toInt = -1000003 := by decide
  have km1000001 : (-1000001 : Int32).toInt = -1000001 := by decide
  have k0 : (0 : Int32).toInt = 0 := by decide
  have k1 : (1 : Int32).toInt = 1 := by decide
  have k60 : (60 : Int32).toInt = 60 := by decide
  have k255 : (255 : Int32).toInt = 255 := by decide
  have k100000 : (100000 : Int32).toInt = 100000 := by decide
  refine lv_aload_n hx hb dX10_opened_0 rfl (lv_at hl 0 rfl) ?_
  refine lv_iload_n hx hb dX10_opened_1 rfl (lv_at hl 1 rfl) ?_
  refine st_i1 (va_runV (C := RX10) (As := [.int k]) (rest := []) ⟨hx, hb, hml, hown, hts⟩ (ct_X10_isCrate l D cI cY cJ cQ _ ad tn td lf cn k) (cwV 1 hts gX10_opened_X10_isCrate rfl rfl rfl ⟨rfl, cdX10_isCrate⟩ ⟨Nat.le_of_ble_eq_true rfl, Nat.le_of_ble_eq_true rfl⟩) (cPreV (hP.sub [0, 1] rfl) hK (hD.sub [0, 1] (by decide +kernel) rfl) hN (ci := 10) (q0 := 0) rfl rfl) rfl rfl hl.1 rfl (lv_room (Nat.le_of_ble_eq_true rfl)) dX10_opened_2 ⟨Nat.le_of_ble_eq_true rfl, Nat.le_of_ble_eq_true rfl⟩) hP hD hS hA [0, 1] rfl (fun _ => rfl) (fun r3 u1 H locs hw2 => ?_)
  clear hP hS
  intro hP hS
  replace hw2 : r3 = if 0 ≤ k.toInt ∧ k.toInt < cn.toInt then 1 else 0 := hw2
  refine lv_if_eq (tgt := 37) hx hb dX10_opened_5 (by decide) (fun c4 => ?_) (fun c4 => ?_)
  · skip
    have f5 := bo_f hw2 c4
    refine lv_ldc hx hb hown (hts (Cond.constant RX10 89 (-1000001)) (wm_t (wm_l (wm_i 1 rfl)))) dX10_opened_37 ?_
    have hP9 := hP
    have hD9 := hD
    exact W.iret (v := (-1000001)) hx hb hr (fun t ht hW => ⟨⟨(-1000001), (un, uk, uy, uw, um), rfl, (by unfold sp_opened; (repeat' split) <;> first | rfl | (exfalso; omega) | (subst_vars; rfl)), by rw [ht]; exact hP9, va_K.moved hW.alike hK, hD9⟩, hS.F ht⟩) hS.2.2 dX10_opened_39
  · skip
    have f6 := bo_t hw2 c4
    refine lv_iload_n hx hb dX10_opened_8 rfl (lv_at hl 2 rfl) ?_
    refine st_i1 (va_runS (As := [.int d]) (rest := []) ⟨hx, hb, hml, hown, hts⟩ (ct_X10_isDay l D cI cY cJ cQ _ d) (va_cwS 1 hts gX10_opened_X10_isDay rfl rfl rfl cdX10_isDay ⟨Nat.le_of_ble_eq_true rfl, Nat.le_of_ble_eq_true rfl⟩) (cPreS (hP.sub [] rfl) hK (hD.sub [] (by decide +kernel) rfl) hN) rfl rfl hl.1 rfl (lv_room (Nat.le_of_ble_eq_true rfl)) dX10_opened_9 ⟨Nat.le_of_ble_eq_true rfl, Nat.le_of_ble_eq_true rfl⟩) hP hD hS hA [] rfl (fun _ => rfl) (fun r9 u7 H locs hw8 => ?_)
    clear hP hS
    intro hP hS
    replace hw8 : r9 = if 0 ≤ d.toInt ∧ d.toInt < 10000 then 1 else 0 := hw8
    refine lv_if_eq (tgt := 37) hx hb dX10_opened_12 (by decide) (fun c10 => ?_) (fun c10 => ?_)
    · skip
      have f11 := bo_f hw8 c10
      refine lv_ldc hx hb hown (hts (Cond.constant RX10 89 (-1000001)) (wm_t (wm_l (wm_i 1 rfl)))) dX10_opened_37 ?_
      have hP9 := hP
      have hD9 := hD
      exact W.iret (v := (-1000001)) hx hb hr (fun t ht hW => ⟨⟨(-1000001), (un, uk, uy, uw, um), rfl, (by unfold sp_opened; (repeat' split) <;> first | rfl | (exfalso; omega) | (subst_vars; rfl)), by rw [ht]; exact hP9, va_K.moved hW.alike hK, hD9⟩, hS.F ht⟩) hS.2.2 dX10_opened_39
    · skip
      have f12 := bo_t hw8 c10
      refine lv_iload_n hx hb dX10_opened_15 rfl (lv_at hl 3 rfl) ?_
      refine lv_iconst (v := 1) hx hb dX10_opened_16 (by decide) ?_
      refine lv_ldc hx hb hown (hts (Cond.constant RX10 176 (100000)) (wm_t (wm_l (wm_i 0 rfl)))) dX10_opened_17 ?_
      refine st_i1 (va_runS (As := [.int w, .int 1, .int 100000]) (rest := []) ⟨hx, hb, hml, hown, hts⟩ (ct_X10_isFrom l D cI cY cJ cQ _ w (1 : Int32) (100000 : Int32)) (va_cwS 3 hts gX10_opened_X10_isFrom rfl rfl rfl cdX10_isFrom ⟨Nat.le_of_ble_eq_true rfl, Nat.le_of_ble_eq_true rfl⟩) (cPreS (hP.sub [] rfl) hK (hD.sub [] (by decide +kernel) rfl) hN) rfl rfl hl.1 rfl (lv_room (Nat.le_of_ble_eq_true rfl)) dX10_opened_19 ⟨Nat.le_of_ble_eq_true rfl, Nat.le_of_ble_eq_true rfl⟩) hP hD hS hA [] rfl (fun _ => rfl) (fun r15 u13 H locs hw14 => ?_)
      clear hP hS
      intro hP hS
      replace hw14 : r15 = if (1 : Int32).toInt ≤ w.toInt ∧ w.toInt ≤ (100000 : Int32).toInt then 1 else 0 := hw14
      refine lv_if_eq (tgt := 37) hx hb dX10_opened_22 (by decide) (fun c16 => ?_) (fun c16 => ?_)
      · skip
        have f17 := bo_f hw14 c16
        refine lv_ldc hx hb hown (hts (Cond.constant RX10 89 (-1000001)) (wm_t (wm_l (wm_i 1 rfl)))) dX10_opened_37 ?_
        have hP9 := hP
        have hD9 := hD
        exact W.iret (v := (-1000001)) hx hb hr (fun t ht hW => ⟨⟨(-1000001), (un, uk, uy, uw, um), rfl, (by unfold sp_opened; (repeat' split) <;> first | rfl | (exfalso; omega) | (subst_vars; rfl)), by rw [ht]; exact hP9, va_K.moved hW.alike hK, hD9⟩, hS.F ht⟩) hS.2.2 dX10_opened_39
      · skip
        have f18 := bo_t hw14 c16
        refine lv_iload hx hb dX10_opened_25 (lv_at hl 4 rfl) ?_
        refine lv_iconst (v := 0) hx hb dX10_opened_27 (by decide) ?_
        refine lv_sipush (v := 255) hx hb dX10_opened_28 (by decide) ?_
        refine st_i1 (va_runS (As := [.int q, .int 0, .int 255]) (rest := []) ⟨hx, hb, hml, hown, hts⟩ (ct_X10_isFrom l D cI cY cJ cQ _ q (0 : Int32) (255 : Int32)) (va_cwS 3 hts gX10_opened_X10_isFrom rfl rfl rfl cdX10_isFrom ⟨Nat.le_of_ble_eq_true rfl, Nat.le_of_ble_eq_true rfl⟩) (cPreS (hP.sub [] rfl) hK (hD.sub [] (by decide +kernel) rfl) hN) rfl rfl hl.1 rfl (lv_room (Nat.le_of_ble_eq_true rfl)) dX10_opened_31 ⟨Nat.le_of_ble_eq_true rfl, Nat.le_of_ble_eq_true rfl⟩) hP hD hS hA [] rfl (fun _ => rfl) (fun r21 u19 H locs hw20 => ?_)
        clear hP hS
        intro hP hS
        replace hw20 : r21 = if (0 : Int32).toInt ≤ q.toInt ∧ q.toInt ≤ (255 : Int32).toInt then 1 else 0 := hw20
        refine lv_if_ne (tgt := 40) hx hb dX10_opened_34 (by decide) (fun c22 => ?_) (fun c22 => ?_)
        · skip
          have f23 := bo_t hw20 c22
          refine lv_aload_n hx hb dX10_opened_40 rfl (lv_at hl 0 rfl) ?_
          refine va_get (D := D) (ci := 10) (v := .ref (ad 9)) (C := RX10) (T := TX10) (N := 14) hx hb hts inX10_opened_X10 hown hK hP 0 rfl rfl 8 (by decide) (hts (Cond.fieldLink RX10 61 "PortRooms" "openings" "LPortRooms$Openings;") (wm_t (wm_l (wm_i 2 rfl)))) (fun _ h9 => h9) rfl dX10_opened_41 ?_
          refine va_get (D := D) (ci := 6) (v := .int un) (C := RX6) (T := TX6) (N := 5) hx hb hts inX10_opened_X6 hown hK hP 2 rfl rfl 4 (by decide) (hts (Cond.fieldLink RX10 287 "PortRooms$Openings" "count" "I") (wm_t (wm_l (wm_i 3 rfl)))) (fun _ h9 => h9) rfl dX10_opened_44 ?_
          refine lv_bipush (v := 60) hx hb dX10_opened_47 (by decide) ?_
          refine lv_icmp_lt (tgt := 55) hx hb dX10_opened_49 (by decide) (fun c24 => ?_) (fun c24 => ?_)
          · skip
            have f25 := i_lt c24
            refine lv_aload_n hx hb dX10_opened_55 rfl (lv_at hl 0 rfl) ?_
            refine va_get (D := D) (ci := 10) (v := .ref (ad 9)) (C := RX10) (T := TX10) (N := 14) hx hb hts inX10_opened_X10 hown hK hP 0 rfl rfl 8 (by decide) (hts (Cond.fieldLink RX10 61 "PortRooms" "openings" "LPortRooms$Openings;") (wm_t (wm_l (wm_i 2 rfl)))) (fun _ h9 => h9) rfl dX10_opened_56 ?_
            refine lv_iload_n hx hb dX10_opened_59 rfl (lv_at hl 1 rfl) ?_
            refine lv_iload_n hx hb dX10_opened_60 rfl (lv_at hl 2 rfl) ?_
            refine lv_iload_n hx hb dX10_opened_61 rfl (lv_at hl 3 rfl) ?_
            refine lv_iload hx hb dX10_opened_62 (lv_at hl 4 rfl) ?_
            refine st_i (wr := [(oC10 ad tn td lf), (oC1 ad cn)]) (va_runV (C := RX6) (As := [.int k, .int d, .int w, .int q]) (rest := []) ⟨hx, hb, hml, hown, hts⟩ (ct_X6_tell l D cI cY cJ cQ _ ad un uk uy uw um k d w q h1 (by omega)) (cwV 4 hts gX10_opened_X6_tell rfl rfl rfl ⟨rfl, cdX6_tell⟩ ⟨Nat.le_of_ble_eq_true rfl, Nat.le_of_ble_eq_true rfl⟩) (cPreV (hP.sub [2, 3, 4, 5, 6] rfl) hK (hD.sub [2, 3, 4, 5, 6] (by decide +kernel) rfl) hN (ci := 6) (q0 := 0) rfl rfl) rfl rfl hl.1 rfl (lv_room (Nat.le_of_ble_eq_true rfl)) dX10_opened_64 ⟨Nat.le_of_ble_eq_true rfl, Nat.le_of_ble_eq_true rfl⟩) hP hD hS hA [2, 3, 4, 5, 6] [0, 1] rfl rfl (by decide +kernel) (by decide +kernel) (fun r28 u26 H locs hw27 => ?_)
            clear hP hD hS
            intro hP hD hS
            replace hw27 : r28 = un + 1 := hw27
            replace hP : va_P D vwCl [(oC10 ad tn td lf), (oC1 ad cn), (oC6 ad (un + 1)), (aI cI (ad 59) 60 (upd uk un.toNatClampNeg k)), (aI cI (ad 60) 60 (upd uy un.toNatClampNeg d)), (aI cI (ad 61) 60 (upd uw un.toNatClampNeg w)), (aI cI (ad 62) 60 (upd um un.toNatClampNeg q))] H := hP
            replace hD : va_D A [(oC10 ad tn td lf), (oC1 ad cn), (oC6 ad (un + 1)), (aI cI (ad 59) 60 (upd uk un.toNatClampNeg k)), (aI cI (ad 60) 60 (upd uy un.toNatClampNeg d)), (aI cI (ad 61) 60 (upd uw un.toNatClampNeg w)), (aI cI (ad 62) 60 (upd um un.toNatClampNeg q))] := hD
            subst hw27
            have hP9 := hP
            have hD9 := hD
            exact W.iret (v := un + 1) hx hb hr (fun t ht hW => ⟨⟨un + 1, (un + 1, upd uk un.toNatClampNeg k, upd uy un.toNatClampNeg d, upd uw un.toNatClampNeg w, upd um un.toNatClampNeg q), rfl, (by unfold sp_opened; (repeat' split) <;> first | rfl | (exfalso; omega) | (subst_vars; rfl)), by rw [ht]; exact hP9, va_K.moved hW.alike hK, hD9⟩, hS.F ht⟩) hS.2.2 dX10_opened_67
          · skip
            have f29 := i_nlt c24
            refine lv_ldc hx hb hown (hts (Cond.constant RX10 145 (-1000003)) (wm_t (wm_l (wm_i 4 rfl)))) dX10_opened_52 ?_
            have hP9 := hP
            have hD9 := hD
            exact W.iret (v := (-1000003)) hx hb hr (fun t ht hW => ⟨⟨(-1000003), (un, uk, uy, uw, um), rfl, (by unfold sp_opened; (repeat' split) <;> first | rfl | (exfalso; omega) | (subst_vars; rfl)), by rw [ht]; exact hP9, va_K.moved hW.alike hK, hD9⟩, hS.F ht⟩) hS.2.2 dX10_opened_54
        · skip
          have f30 := bo_f hw20 c22
          refine lv_ldc hx hb hown (hts (Cond.constant RX10 89 (-1000001)) (wm_t (wm_l (wm_i 1 rfl)))) dX10_opened_37 ?_
          have hP9 := hP
          have hD9 := hD
          exact W.iret (v := (-1000001)) hx hb hr (fun t ht hW => ⟨⟨(-1000001), (un, uk, uy, uw, um), rfl, (by unfold sp_opened; (repeat' split) <;> first | rfl | (exfalso; omega) | (subst_vars; rfl)), by rw [ht]; exact hP9, va_K.moved hW.alike hK, hD9⟩, hS.F ht⟩) hS.2.2 dX10_opened_39

def sp_list (lc : Int32) (lp la lb : Nat → Int32) (q a b : Int32) : Int32 × Int32 × (Nat → Int32) × (Nat → Int32) × (Nat → Int32) := if 0 ≤ q.toInt ∧ q.toInt < 10 ∧ 0 ≤ a.toInt ∧ b.toInt < 10000 ∧ a.toInt ≤ b.toInt then (if 20 ≤ lc.toInt then (-1000003, lc, lp, la, lb) else (lc + 1, lc + 1, upd lp lc.toNatClampNeg q, upd la lc.toNatClampNeg a, upd lb lc.toNatClampNeg b)) else (-1000001, lc, lp, la, lb)

set_option maxHeartbeats 4000000 in
set_option maxRecDepth 100000 in
theorem ct_X10_list (l : Launch) (D : va_G) (cI cY cJ cQ : ClassId) (sz : Nat) (ad : Nat → Nat) (tn td lf lc : Int32) (lp la lb : Nat → Int32) (q : Int32) (a : Int32) (b : Int32)  (h1 : 0 ≤ lc.toInt) (h2 : lc.toInt ≤ 20)  : Met l yX10_list wsX10_list ({ frames := 3, cells := 0, slots := 0, locals := 62 }) (cPre D (ty4 cI cY cJ cQ) [(oC10 ad tn td lf), (oC4 ad lc), (aI cI (ad 63) 20 lp), (aI cI (ad 64) 20 la), (aI cI (ad 65) 20 lb)] sz [.ref (ad 0), .int q, .int a, .int b]) (va_Qi (fun (r : Int32) (u : Int32 × (Nat → Int32) × (Nat → Int32) × (Nat → Int32)) => (r, u) = sp_list lc lp la lb q a b) (cB D (ty4 cI cY cJ cQ) (fun (u : Int32 × (Nat → Int32) × (Nat → Int32) × (Nat → Int32)) => [(oC10 ad tn td lf), (oC4 ad u.1), (aI cI (ad 63) 20 u.2.1), (aI cI (ad 64) 20 u.2.2.1), (aI cI (ad 65) 20 u.2.2.2)]) (va_A [(oC10 ad tn td lf), (oC4 ad lc), (aI cI (ad 63) 20 lp), (aI cI (ad 64) 20 la), (aI cI (ad 65) 20 lb)] sz)) (va_A [(oC10 ad tn td lf), (oC4 ad lc), (aI cI (ad 63) 20 lp), (aI cI (ad 64) 20 la), (aI cI (ad 65) 20 lb)] sz)) 0 0 (va_A [(oC10 ad tn td lf), (oC4 ad lc), (aI cI (ad 63) 20 lp), (aI cI (ad 64) 20 la), (aI cI (ad 65) 20 lb)] sz) := by
  refine Met.ofW (cc := cX10_list) (maxL := 4) (ret := (some .int)) (by decide) rfl ?_
  intro p e s m args below meth c s₁ B hml hv
  obtain ⟨rfl, hsz, hP, hK, hD0, hN⟩ := hv
  have hx := B.exec
  have hb := B.bytes
  have hr := B.returns
  have hts := atoms_spec (ws := wsX10_list) B.pre
  have hown : s.vm.findClass RX10 = some m.cls := findClass_of_methodNamed B.named
  have hlocks := B.notSynchronized
  subst hsz
  have hD := hD0.self (sz := s.heap.size)
  generalize hAe : va_A [(oC10 ad tn td lf), (oC4 ad lc), (aI cI (ad 63) 20 lp), (aI cI (ad 64) 20 la), (aI cI (ad 65) 20 lb)] s.heap.size = A at hD ⊢
  have hA : ∀ q : Nat, s.heap.size ≤ q → A q := fun q h => by rw [← hAe]; exact Or.inr h
  have hS : va_S A s.heap s.heap [] := va_S.rf
  have hP : va_P D vwCl [(oC10 ad tn td lf), (oC4 ad lc), (aI cI (ad 63) 20 lp), (aI cI (ad 64) 20 la), (aI cI (ad 65) 20 lb)] s.heap := hP
  have hl := lv_entry ([.ref (ad 0), .int q, .int a, .int b]) (n := 4) (Nat.le_of_ble_eq_true rfl)
  rw [lg_entry_eq]
  generalize (lg_sl ([.ref (ad 0), .int q, .int a, .int b]) ++ List.replicate (4 - (lg_sl ([.ref (ad 0), .int q, .int a, .int b])).length) Slot.unset).toArray = ls at hl ⊢
  have hl : lv_has ls 4 [(0, .ref (ad 0)), (1, .int q), (2, .int a), (3, .int b)] := hl
  have km1000003 : (-1000003 : Int32).toInt = -1000003 := by decide
  have km1000001 : (-1000001 : Int32).toInt = -1000001 := by decide
  have k0 : (0 : Int32).toInt = 0 := by decide
  have k20 : (20 : Int32).toInt = 20 := by decide
  refine lv_iload_n hx hb dX10_list_0 rfl (lv_at hl 1 rfl) ?_
  refine st_i1 (va_runS (As := [.int q]) (rest := []) ⟨hx, hb, hml, hown, hts⟩ (ct_X10_isPerson l D cI cY cJ cQ _ q) (va_cwS 1 hts gX10_list_X10_isPerson rfl rfl rfl cdX10_isPerson ⟨Nat.le_of_ble_eq_true rfl, Nat.le_of_ble_eq_true rfl⟩) (cPreS (hP.sub [] rfl) hK (hD.sub [] (by decide +kernel) rfl) hN) rfl rfl hl.1 rfl (lv_room (Nat.le_of_ble_eq_true rfl)) dX10_list_1 ⟨Nat.le_of_ble_eq_true rfl, Nat.le_of_ble_eq_true rfl⟩) hP hD hS hA [] rfl (fun _ => rfl) (fun r3 u1 H locs hw2 => ?_)
  clear hP hS
  intro hP hS
  replace hw2 : r3 = if 0 ≤ q.toInt ∧ q.toInt < 10 then 1 else 0 := hw2
  refine lv_if_eq (tgt := 15) hx hb dX10_list_4 (by decide) (fun c4 => ?_) (fun c4 => ?_)
  · skip
    have f5 := bo_f hw2 c4
    refine lv_ldc hx hb hown (hts (Cond.constant RX10 89 (-1000001)) (wm_t (wm_l (wm_i 0 rfl)))) dX10_list_15 ?_
    have hP9 := hP
    have hD9 := hD
    exact W.iret (v := (-1000001)) hx hb hr (fun t ht hW => ⟨⟨(-1000001), (lc, lp, la, lb), rfl, (by unfold sp_list; (repeat' split) <;> first | rfl | (exfalso; omega) | (subst_vars; rfl)), by rw [ht]; exact hP9, va_K.moved hW.alike hK, hD9⟩, hS.F ht⟩) hS.2.2 dX10_list_17
  · skip
    have f6 := bo_t hw2 c4
    refine lv_iload_n hx hb dX10_list_7 rfl (lv_at hl 2 rfl) ?_
    refine lv_iload_n hx hb dX10_list_8 rfl (lv_at hl 3 rfl) ?_
    refine st_i1 (va_runS (As := [.int a, .int b]) (rest := []) ⟨hx, hb, hml, hown, hts⟩ (ct_X10_areDays l D cI cY cJ cQ _ a b) (va_cwS 2 hts gX10_list_X10_areDays rfl rfl rfl cdX10_areDays ⟨Nat.le_of_ble_eq_true rfl, Nat.le_of_ble_eq_true rfl⟩) (cPreS (hP.sub [] rfl) hK (hD.sub [] (by decide +kernel) rfl) hN) rfl rfl hl.1 rfl (lv_room (Nat.le_of_ble_eq_true rfl)) dX10_list_9 ⟨Nat.le_of_ble_eq_true rfl, Nat.le_of_ble_eq_true rfl⟩) hP hD hS hA [] rfl (fun _ => rfl) (fun r9 u7 H locs hw8 => ?_)
    clear hP hS
    intro hP hS
    replace hw8 : r9 = if 0 ≤ a.toInt ∧ b.toInt < 10000 ∧ a.toInt ≤ b.toInt then 1 else 0 := hw8
    refine lv_if_ne (tgt := 18) hx hb dX10_list_12 (by decide) (fun c10 => ?_) (fun c10 => ?_)
    · skip
      have f11 := bo_t hw8 c10
      refine lv_aload_n hx hb dX10_list_18 rfl (lv_at hl 0 rfl) ?_
      refine va_get (D := D) (ci := 10) (v := .ref (ad 10)) (C := RX10) (T := TX10) (N := 14) hx hb hts inX10_list_X10 hown hK hP 0 rfl rfl 9 (by decide) (hts (Cond.fieldLink RX10 68 "PortRooms" "lists" "LPortRooms$Lists;") (wm_t (wm_l (wm_i 1 rfl)))) (fun _ h9 => h9) rfl dX10_list_19 ?_
      refine va_get (D := D) (ci := 4) (v := .int lc) (C := RX4) (T := TX4) (N := 4) hx hb hts inX10_list_X4 hown hK hP 1 rfl rfl 3 (by decide) (hts (Cond.fieldLink RX10 292 "PortRooms$Lists" "count" "I") (wm_t (wm_l (wm_i 2 rfl)))) (fun _ h9 => h9) rfl dX10_list_22 ?_
      refine lv_bipush (v := 20) hx hb dX10_list_25 (by decide) ?_
      refine lv_icmp_lt (tgt := 33) hx hb dX10_list_27 (by decide) (fun c12 => ?_) (fun c12 => ?_)
      · skip
        have f13 := i_lt c12
        refine lv_aload_n hx hb dX10_list_33 rfl (lv_at hl 0 rfl) ?_
        refine va_get (D := D) (ci := 10) (v := .ref (ad 10)) (C := RX10) (T := TX10) (N := 14) hx hb hts inX10_list_X10 hown hK hP 0 rfl rfl 9 (by decide) (hts (Cond.fieldLink RX10 68 "PortRooms" "lists" "LPortRooms$Lists;") (wm_t (wm_l (wm_i 1 rfl)))) (fun _ h9 => h9) rfl dX10_list_34 ?_
        refine lv_iload_n hx hb dX10_list_37 rfl (lv_at hl 1 rfl) ?_
        refine lv_iload_n hx hb dX10_list_38 rfl (lv_at hl 2 rfl) ?_
        refine lv_iload_n hx hb dX10_list_39 rfl (lv_at hl 3 rfl) ?_
        refine st_i (wr := [(oC10 ad tn td lf)]) (va_runV (C := RX4) (As := [.int q, .int a, .int b]) (rest := []) ⟨hx, hb, hml, hown, hts⟩ (ct_X4_tell l D cI cY cJ cQ _ ad lc lp la lb q a b h1 (by omega)) (cwV 3 hts gX10_list_X4_tell rfl rfl rfl ⟨rfl, cdX4_tell⟩ ⟨Nat.le_of_ble_eq_true rfl, Nat.le_of_ble_eq_true rfl⟩) (cPreV (hP.sub [1, 2, 3, 4] rfl) hK (hD.sub [1, 2, 3, 4] (by decide +kernel) rfl) hN (ci := 4) (q0 := 0) rfl rfl) rfl rfl hl.1 rfl (lv_room (Nat.le_of_ble_eq_true rfl)) dX10_list_40 ⟨Nat.le_of_ble_eq_true rfl, Nat.le_of_ble_eq_true rfl⟩) hP hD hS hA [1, 2, 3, 4] [0] rfl rfl (by decide +kernel) (by decide +kernel) (fun r16 u14 H locs hw15 => ?_)
        clear hP hD hS
        intro hP hD hS
        replace hw15 : r16 = lc + 1 := hw15
        replace hP : va_P D vwCl [(oC10 ad tn td lf), (oC4 ad (lc + 1)), (aI cI (ad 63) 20 (upd lp lc.toNatClampNeg q)), (aI cI (ad 64) 20 (upd la lc.toNatClampNeg a)), (aI cI (ad 65) 20 (upd lb lc.toNatClampNeg b))] H := hP
        replace hD : va_D A [(oC10 ad tn td lf), (oC4 ad (lc + 1)), (aI cI (ad 63) 20 (upd lp lc.toNatClampNeg q)), (aI cI (ad 64) 20 (upd la lc.toNatClampNeg a)), (aI cI (ad 65) 20 (upd lb lc.toNatClampNeg b))] := hD
        subst hw15
        have hP9 := hP
        have hD9 := hD
        exact W.iret (v := lc + 1) hx hb hr (fun t ht hW => ⟨⟨lc + 1, (lc + 1, upd lp lc.toNatClampNeg q, upd la lc.toNatClampNeg a, upd lb lc.toNatClampNeg b), rfl, (by unfold sp_list; (repeat' split) <;> first | rfl | (exfalso; omega) | (subst_vars; rfl)), by rw [ht]; exact hP9, va_K.moved hW.alike hK, hD9⟩, hS.F ht⟩) hS.2.2 dX10_list_43
      · skip
        have f17 := i_nlt c12
        refine lv_ldc hx hb hown (hts (Cond.constant RX10 145 (-1000003)) (wm_t (wm_l (wm_i 3 rfl)))) dX10_list_30 ?_
        have hP9 := hP
        have hD9 := hD
        exact W.iret (v := (-1000003)) hx hb hr (fun t ht hW => ⟨⟨(-1000003), (lc, lp, la, lb), rfl, (by unfold sp_list; (repeat' split) <;> first | rfl | (exfalso; omega) | (subst_vars; rfl)), by rw [ht]; exact hP9, va_K.moved hW.alike hK, hD9⟩, hS.F ht⟩) hS.2.2 dX10_list_32
    · skip
      have f18 := bo_f hw8 c10
      refine lv_ldc hx hb hown (hts (Cond.constant RX10 89 (-1000001)) (wm_t (wm_l (wm_i 0 rfl)))) dX10_list_15 ?_
      have hP9 := hP
      have hD9 := hD
      exact W.iret (v := (-1000001)) hx hb hr (fun t ht hW => ⟨⟨(-1000001), (lc, lp, la, lb), rfl, (by unfold sp_list; (repeat' split) <;> first | rfl | (exfalso; omega) | (subst_vars; rfl)), by rw [ht]; exact hP9, va_K.moved hW.alike hK, hD9⟩, hS.F ht⟩) hS.2.2 dX10_list_17
end
