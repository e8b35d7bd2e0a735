
def mK (T : Nat → Int32) (L c : Nat) : Int := if tS T L c < L then (if 97 ≤ (T (tS T L c)).toInt ∧ (T (tS T L c)).toInt ≤ 122 then (if tS T L c + 6 < tE T L c then 0 else 2) else if 48 ≤ (T (tS T L c)).toInt ∧ (T (tS T L c)).toInt ≤ 57 then (if tS T L c + 4 < tE T L c then 0 else 3) else if (T (tS T L c)).toInt = 59 ∨ (T (tS T L c)).toInt = 62 then 4 else 0) else 1
theorem mk_end {T : Nat → Int32} {L c s : Nat} (hs : tS T L c = s) (h : ¬ s < L) : mK T L c = 1 := by
  unfold mK
  rw [hs, if_neg h]
theorem mk_let {T : Nat → Int32} {L c s e : Nat} (hs : tS T L c = s) (h : s < L) (hl : 97 ≤ (T s).toInt ∧ (T s).toInt ≤ 122) (he : tE T L c = e) : mK T L c = (if s + 6 < e then 0 else 2) := by
  unfold mK
  rw [he, hs, if_pos h, if_pos hl]
theorem mk_fig {T : Nat → Int32} {L c s e : Nat} (hs : tS T L c = s) (h : s < L) (hl : 48 ≤ (T s).toInt ∧ (T s).toInt ≤ 57) (he : tE T L c = e) : mK T L c = (if s + 4 < e then 0 else 3) := by
  unfold mK
  rw [he, hs, if_pos h, if_neg (by omega), if_pos hl]
theorem mk_sgn {T : Nat → Int32} {L c s : Nat} (hs : tS T L c = s) (h : s < L) (hl : ¬ (97 ≤ (T s).toInt ∧ (T s).toInt ≤ 122)) (hf : ¬ (48 ≤ (T s).toInt ∧ (T s).toInt ≤ 57)) : mK T L c = (if (T s).toInt = 59 ∨ (T s).toInt = 62 then 4 else 0) := by
  unfold mK
  rw [hs, if_pos h, if_neg hl, if_neg hf]
theorem runE_all {P : Int → Bool} {T : Nat → Int32} {L : Nat} (f i : Nat) : ∀ j, i ≤ j → j < runE P T L f i → P (T j).toInt = true := by
  induction f generalizing i with
  | zero => exact fun j h1 h2 => absurd h2 (by show ¬ j < i; omega)
  | succ f ih =>
    intro j h1 h2
    rw [show runE P T L (f + 1) i = if i < L ∧ P (T i).toInt = true then runE P T L f (i + 1) else i from rfl] at h2
    split at h2
    · rename_i g
      by_cases e : j = i
      · rw [e]; exact g.2
      · exact ih (i + 1) j (by omega) h2
    · omega
theorem run_let {T : Nat → Int32} {L s : Nat} : ∀ j, s ≤ j → j < runTo leB T L s → 97 ≤ (T j).toInt ∧ (T j).toInt ≤ 122 := fun j h1 h2 => of_decide_eq_true (runE_all _ _ j h1 h2)
/-- the reference's tokens beside the class's -/
theorem mk_tk {T : Nat → Int32} {L c : Nat} (h : c ≤ L) : (mK T L c = 1 ∧ tK T L c = 8) ∨ (mK T L c = 3 ∧ tK T L c = 5 ∧ tE T L c ≤ tS T L c + 4) ∨ (mK T L c = 4 ∧ (T (tS T L c)).toInt = 59 ∧ tK T L c = 6) ∨ (mK T L c = 4 ∧ (T (tS T L c)).toInt = 62 ∧ tK T L c = 7) ∨ (mK T L c = 0 ∧ tK T L c = 9) ∨ (mK T L c = 2 ∧ tK T L c = wdK T (tS T L c) (tE T L c) 5 ∧ tS T L c < tE T L c ∧ tE T L c ≤ tS T L c + 6 ∧ ∀ i, tS T L c ≤ i → i < tE T L c → 97 ≤ (T i).toInt ∧ (T i).toInt ≤ 122) := by
  have hE := tE_le (T := T) h
  by_cases h1 : tS T L c < L
  · by_cases hl : 97 ≤ (T (tS T L c)).toInt ∧ (T (tS T L c)).toInt ≤ 122
    · obtain ⟨e1, k1⟩ := tok_let rfl h1 hl rfl
      have m1 := mk_let rfl h1 hl e1
      rw [← e1] at k1 m1
      by_cases q : tS T L c + 6 < tE T L c
      · rw [if_pos q] at k1 m1
        exact Or.inr (Or.inr (Or.inr (Or.inr (Or.inl ⟨m1, k1⟩))))
      · rw [if_neg q] at k1 m1
        exact Or.inr (Or.inr (Or.inr (Or.inr (Or.inr ⟨m1, k1, hE.2.2 h1, by omega, fun i h2 h3 => run_let i h2 (by rw [← e1]; exact h3)⟩))))
    · by_cases hf : 48 ≤ (T (tS T L c)).toInt ∧ (T (tS T L c)).toInt ≤ 57
      · obtain ⟨e1, k1, -⟩ := tok_fig rfl h1 hf rfl
        have m1 := mk_fig rfl h1 hf e1
        rw [← e1] at k1 m1
        by_cases q : tS T L c + 4 < tE T L c
        · rw [if_pos q] at k1 m1
          exact Or.inr (Or.inr (Or.inr (Or.inr (Or.inl ⟨m1, k1⟩))))
        · rw [if_neg q] at k1 m1
          exact Or.inr (Or.inl ⟨m1, k1, by omega⟩)
      · obtain ⟨e1, k1⟩ := tok_sgn rfl h1 hl hf
        have m1 := mk_sgn rfl h1 hl hf
        by_cases q : (T (tS T L c)).toInt = 59
        · rw [if_pos q] at k1
          rw [if_pos (Or.inl q)] at m1
          exact Or.inr (Or.inr (Or.inl ⟨m1, q, k1⟩))
        · rw [if_neg q] at k1
          by_cases q2 : (T (tS T L c)).toInt = 62
          · rw [if_pos q2] at k1
            rw [if_pos (Or.inr q2)] at m1
            exact Or.inr (Or.inr (Or.inr (Or.inl ⟨m1, q2, k1⟩)))
          · rw [if_neg q2] at k1
            rw [if_neg (by omega)] at m1
            exact Or.inr (Or.inr (Or.inr (Or.inr (Or.inl ⟨m1, k1⟩))))
  · exact Or.inl ⟨mk_end rfl h1, (tok_end rfl h1).2⟩
/-- a word's letters as one number -/
def wvV (T : Nat → Int32) (s : Nat) : Nat → Int
  | 0 => 0
  | n + 1 => wvV T s n * 256 + (T (s + n)).toInt
theorem wvV_s (T : Nat → Int32) (s n : Nat) : wvV T s (n + 1) = wvV T s n * 256 + (T (s + n)).toInt := rfl
theorem wv_1 {T : Nat → Int32} {s : Nat} (l0 : 97 ≤ (T (s + 0)).toInt ∧ (T (s + 0)).toInt ≤ 122) : (wvV T s 1 = 1936682084 ↔ wdK T s (s + 1) 5 = 0) ∧ (wvV T s 1 = 495673374574 ↔ wdK T s (s + 1) 5 = 1) ∧ (wvV T s 1 = 7304564 ↔ wdK T s (s + 1) 5 = 2) ∧ (wvV T s 1 = 120282411197796 ↔ wdK T s (s + 1) 5 = 3) ∧ (wvV T s 1 = 1885434484 ↔ wdK T s (s + 1) 5 = 4) := by
  have w0 : ¬ wdIs T s (s + 1) 0 := by
    intro h
    have h0 := h 1 (by decide)
    rw [if_neg (by omega), show (WORDB.getD (6 * 0 + 1) 0).toInt = 111 from by decide] at h0
    omega
  have w1 : ¬ wdIs T s (s + 1) 1 := by
    intro h
    have h0 := h 1 (by decide)
    rw [if_neg (by omega), show (WORDB.getD (6 * 1 + 1) 0).toInt = 104 from by decide] at h0
    omega
  have w2 : ¬ wdIs T s (s + 1) 2 := by
    intro h
    have h0 := h 1 (by decide)
    rw [if_neg (by omega), show (WORDB.getD (6 * 2 + 1) 0).toInt = 117 from by decide] at h0
    omega
  have w3 : ¬ wdIs T s (s + 1) 3 := by
    intro h
    have h0 := h 1 (by decide)
    rw [if_neg (by omega), show (WORDB.getD (6 * 3 + 1) 0).toInt = 101 from by decide] at h0
    omega
  have w4 : ¬ wdIs T s (s + 1) 4 := by
    intro h
    have h0 := h 1 (by decide)
    rw [if_neg (by omega), show (WORDB.getD (6 * 4 + 1) 0).toInt = 97 from by decide] at h0
    omega
  have hv : wvV T s 1 = 0 * 256 + (T (s + 0)).toInt := rfl
  have hk : wdK T s (s + 1) 5 = 9 := by
    rw [wdK_s, wdK_s, wdK_s, wdK_s, wdK_s]
    rw [if_neg w4]
    rw [if_neg w3]
    rw [if_neg w2]
    rw [if_neg w1]
    rw [if_neg w0]
    rfl
  rw [hk, hv]
  refine ⟨⟨fun h => ?_, fun h => ?_⟩, ⟨fun h => ?_, fun h => ?_⟩, ⟨fun h => ?_, fun h => ?_⟩, ⟨fun h => ?_, fun h => ?_⟩, ⟨fun h => ?_, fun h => ?_⟩⟩ <;> omega
theorem wv_2 {T : Nat → Int32} {s : Nat} (l0 : 97 ≤ (T (s + 0)).toInt ∧ (T (s + 0)).toInt ≤ 122) (l1 : 97 ≤ (T (s + 1)).toInt ∧ (T (s + 1)).toInt ≤ 122) : (wvV T s 2 = 1936682084 ↔ wdK T s (s + 2) 5 = 0) ∧ (wvV T s 2 = 495673374574 ↔ wdK T s (s + 2) 5 = 1) ∧ (wvV T s 2 = 7304564 ↔ wdK T s (s + 2) 5 = 2) ∧ (wvV T s 2 = 120282411197796 ↔ wdK T s (s + 2) 5 = 3) ∧ (wvV T s 2 = 1885434484 ↔ wdK T s (s + 2) 5 = 4) := by
  have w0 : ¬ wdIs T s (s + 2) 0 := by
    intro h
    have h0 := h 2 (by decide)
    rw [if_neg (by omega), show (WORDB.getD (6 * 0 + 2) 0).toInt = 108 from by decide] at h0
    omega
  have w1 : ¬ wdIs T s (s + 2) 1 := by
    intro h
    have h0 := h 2 (by decide)
    rw [if_neg (by omega), show (WORDB.getD (6 * 1 + 2) 0).toInt = 111 from by decide] at h0
    omega
  have w2 : ¬ wdIs T s (s + 2) 2 := by
    intro h
    have h0 := h 2 (by decide)
    rw [if_neg (by omega), show (WORDB.getD (6 * 2 + 2) 0).toInt = 116 from by decide] at h0
    omega
  have w3 : ¬ wdIs T s (s + 2) 3 := by
    intro h
    have h0 := h 2 (by decide)
    rw [if_neg (by omega), show (WORDB.getD (6 * 3 + 2) 0).toInt = 110 from by decide] at h0
    omega
  have w4 : ¬ wdIs T s (s + 2) 4 := by
    intro h
    have h0 := h 2 (by decide)
    rw [if_neg (by omega), show (WORDB.getD (6 * 4 + 2) 0).toInt = 114 from by decide] at h0
    omega
  have hv : wvV T s 2 = (0 * 256 + (T (s + 0)).toInt) * 256 + (T (s + 1)).toInt := rfl
  have hk : wdK T s (s + 2) 5 = 9 := by
    rw [wdK_s, wdK_s, wdK_s, wdK_s, wdK_s]
    rw [if_neg w4]
    rw [if_neg w3]
    rw [if_neg w2]
    rw [if_neg w1]
    rw [if_neg w0]
    rfl
  rw [hk, hv]
  refine ⟨⟨fun h => ?_, fun h => ?_⟩, ⟨fun h => ?_, fun h => ?_⟩, ⟨fun h => ?_, fun h => ?_⟩, ⟨fun h => ?_, fun h => ?_⟩, ⟨fun h => ?_, fun h => ?_⟩⟩ <;> omega
theorem wv_3 {T : Nat → Int32} {s : Nat} (l0 : 97 ≤ (T (s + 0)).toInt ∧ (T (s + 0)).toInt ≤ 122) (l1 : 97 ≤ (T (s + 1)).toInt ∧ (T (s + 1)).toInt ≤ 122) (l2 : 97 ≤ (T (s + 2)).toInt ∧ (T (s + 2)).toInt ≤ 122) : (wvV T s 3 = 1936682084 ↔ wdK T s (s + 3) 5 = 0) ∧ (wvV T s 3 = 495673374574 ↔ wdK T s (s + 3) 5 = 1) ∧ (wvV T s 3 = 7304564 ↔ wdK T s (s + 3) 5 = 2) ∧ (wvV T s 3 = 120282411197796 ↔ wdK T s (s + 3) 5 = 3) ∧ (wvV T s 3 = 1885434484 ↔ wdK T s (s + 3) 5 = 4) := by
  have w0 : ¬ wdIs T s (s + 3) 0 := by
    intro h
    have h0 := h 3 (by decide)
    rw [if_neg (by omega), show (WORDB.getD (6 * 0 + 3) 0).toInt = 100 from by decide] at h0
    omega
  have w1 : ¬ wdIs T s (s + 3) 1 := by
    intro h
    have h0 := h 3 (by decide)
    rw [if_neg (by omega), show (WORDB.getD (6 * 1 + 3) 0).toInt = 119 from by decide] at h0
    omega
  have w2 : wdIs T s (s + 3) 2 ↔ (T (s + 0)).toInt = 111 ∧ (T (s + 1)).toInt = 117 ∧ (T (s + 2)).toInt = 116 := by
    constructor
    · intro h
      have h0 := h 0 (by decide)
      rw [if_pos (by omega), show (WORDB.getD (6 * 2 + 0) 0).toInt = 111 from by decide] at h0
      have h1 := h 1 (by decide)
      rw [if_pos (by omega), show (WORDB.getD (6 * 2 + 1) 0).toInt = 117 from by decide] at h1
      have h2 := h 2 (by decide)
      rw [if_pos (by omega), show (WORDB.getD (6 * 2 + 2) 0).toInt = 116 from by decide] at h2
      have h3 := h 3 (by decide)
      rw [if_neg (by omega), show (WORDB.getD (6 * 2 + 3) 0).toInt = 32 from by decide] at h3
      have h4 := h 4 (by decide)
      rw [if_neg (by omega), show (WORDB.getD (6 * 2 + 4) 0).toInt = 32 from by decide] at h4
      have h5 := h 5 (by decide)
      rw [if_neg (by omega), show (WORDB.getD (6 * 2 + 5) 0).toInt = 32 from by decide] at h5
      exact ⟨h0, h1, h2⟩
    · rintro ⟨h0, h1, h2⟩ k hk
      rcases (show k = 0 ∨ k = 1 ∨ k = 2 ∨ k = 3 ∨ k = 4 ∨ k = 5 by omega) with rfl | rfl | rfl | rfl | rfl | rfl
      · rw [if_pos (by omega), show (WORDB.getD (6 * 2 + 0) 0).toInt = 111 from by decide]
        exact h0
      · rw [if_pos (by omega), show (WORDB.getD (6 * 2 + 1) 0).toInt = 117 from by decide]
        exact h1
      · rw [if_pos (by omega), show (WORDB.getD (6 * 2 + 2) 0).toInt = 116 from by decide]
        exact h2
      · rw [if_neg (by omega), show (WORDB.getD (6 * 2 + 3) 0).toInt = 32 from by decide]
      · rw [if_neg (by omega), show (WORDB.getD (6 * 2 + 4) 0).toInt = 32 from by decide]
      · rw [if_neg (by omega), show (WORDB.getD (6 * 2 + 5) 0).toInt = 32 from by decide]
  have w3 : ¬ wdIs T s (s + 3) 3 := by
    intro h
    have h0 := h 3 (by decide)
    rw [if_neg (by omega), show (WORDB.getD (6 * 3 + 3) 0).toInt = 100 from by decide] at h0
    omega
  have w4 : ¬ wdIs T s (s + 3) 4 := by
    intro h
    have h0 := h 3 (by decide)
    rw [if_neg (by omega), show (WORDB.getD (6 * 4 + 3) 0).toInt = 116 from by decide] at h0
    omega
  have hv : wvV T s 3 = ((0 * 256 + (T (s + 0)).toInt) * 256 + (T (s + 1)).toInt) * 256 + (T (s + 2)).toInt := rfl
  have hk : wdK T s (s + 3) 5 = (if wdIs T s (s + 3) 2 then 2 else 9) := by
    rw [wdK_s, wdK_s, wdK_s, wdK_s, wdK_s]
    rw [if_neg w4]
    rw [if_neg w3]
    rw [if_neg w1]
    rw [if_neg w0]
    rfl
  rw [hk, hv]
  by_cases c2 : (T (s + 0)).toInt = 111 ∧ (T (s + 1)).toInt = 117 ∧ (T (s + 2)).toInt = 116
  · rw [if_pos (w2.mpr c2)]
    refine ⟨⟨fun h => ?_, fun h => ?_⟩, ⟨fun h => ?_, fun h => ?_⟩, ⟨fun h => ?_, fun h => ?_⟩, ⟨fun h => ?_, fun h => ?_⟩, ⟨fun h => ?_, fun h => ?_⟩⟩ <;> omega
  · rw [if_neg (fun h => c2 (w2.mp h))]
    refine ⟨⟨fun h => ?_, fun h => ?_⟩, ⟨fun h => ?_, fun h => ?_⟩, ⟨fun h => ?_, fun h => ?_⟩, ⟨fun h => ?_, fun h => ?_⟩, ⟨fun h => ?_, fun h => ?_⟩⟩ <;> omega
theorem wv_4 {T : Nat → Int32} {s : Nat} (l0 : 97 ≤ (T (s + 0)).toInt ∧ (T (s + 0)).toInt ≤ 122) (l1 : 97 ≤ (T (s + 1)).toInt ∧ (T (s + 1)).toInt ≤ 122) (l2 : 97 ≤ (T (s + 2)).toInt ∧ (T (s + 2)).toInt ≤ 122) (l3 : 97 ≤ (T (s + 3)).toInt ∧ (T (s + 3)).toInt ≤ 122) : (wvV T s 4 = 1936682084 ↔ wdK T s (s + 4) 5 = 0) ∧ (wvV T s 4 = 495673374574 ↔ wdK T s (s + 4) 5 = 1) ∧ (wvV T s 4 = 7304564 ↔ wdK T s (s + 4) 5 = 2) ∧ (wvV T s 4 = 120282411197796 ↔ wdK T s (s + 4) 5 = 3) ∧ (wvV T s 4 = 1885434484 ↔ wdK T s (s + 4) 5 = 4) := by
  have w0 : wdIs T s (s + 4) 0 ↔ (T (s + 0)).toInt = 115 ∧ (T (s + 1)).toInt = 111 ∧ (T (s + 2)).toInt = 108 ∧ (T (s + 3)).toInt = 100 := by
    constructor
    · intro h
      have h0 := h 0 (by decide)
      rw [if_pos (by omega), show (WORDB.getD (6 * 0 + 0) 0).toInt = 115 from by decide] at h0
      have h1 := h 1 (by decide)
      rw [if_pos (by omega), show (WORDB.getD (6 * 0 + 1) 0).toInt = 111 from by decide] at h1
      have h2 := h 2 (by decide)
      rw [if_pos (by omega), show (WORDB.getD (6 * 0 + 2) 0).toInt = 108 from by decide] at h2
      have h3 := h 3 (by decide)
      rw [if_pos (by omega), show (WORDB.getD (6 * 0 + 3) 0).toInt = 100 from by decide] at h3
      have h4 := h 4 (by decide)
      rw [if_neg (by omega), show (WORDB.getD (6 * 0 + 4) 0).toInt = 32 from by decide] at h4
      have h5 := h 5 (by decide)
      rw [if_neg (by omega), show (WORDB.getD (6 * 0 + 5) 0).toInt = 32 from by decide] at h5
      exact ⟨h0, h1, h2, h3⟩
    · rintro ⟨h0, h1, h2, h3⟩ k hk
      rcases (show k = 0 ∨ k = 1 ∨ k = 2 ∨ k = 3 ∨ k = 4 ∨ k = 5 by omega) with rfl | rfl | rfl | rfl | rfl | rfl
      · rw [if_pos (by omega), show (WORDB.getD (6 * 0 + 0) 0).toInt = 115 from by decide]
        exact h0
      · rw [if_pos (by omega), show (WORDB.getD (6 * 0 + 1) 0).toInt = 111 from by decide]
        exact h1
      · rw [if_pos (by omega), show (WORDB.getD (6 * 0 + 2) 0).toInt = 108 from by decide]
        exact h2
      · rw [if_pos (by omega), show (WORDB.getD (6 * 0 + 3) 0).toInt = 100 from by decide]
        exact h3
      · rw [if_neg (by omega), show (WORDB.getD (6 * 0 + 4) 0).toInt = 32 from by decide]
      · rw [if_neg (by omega), show (WORDB.getD (6 * 0 + 5) 0).toInt = 32 from by decide]
  have w1 : ¬ wdIs T s (s + 4) 1 := by
    intro h
    have h0 := h 4 (by decide)
    rw [if_neg (by omega), show (WORDB.getD (6 * 1 + 4) 0).toInt = 110 from by decide] at h0
    omega
  have w2 : ¬ wdIs T s (s + 4) 2 := by
    intro h
    have h0 := h 3 (by decide)
    rw [if_pos (by omega), show (WORDB.getD (6 * 2 + 3) 0).toInt = 32 from by decide] at h0
    omega
  have w3 : ¬ wdIs T s (s + 4) 3 := by
    intro h
    have h0 := h 4 (by decide)
    rw [if_neg (by omega), show (WORDB.getD (6 * 3 + 4) 0).toInt = 101 from by decide] at h0
    omega
  have w4 : wdIs T s (s + 4) 4 ↔ (T (s + 0)).toInt = 112 ∧ (T (s + 1)).toInt = 97 ∧ (T (s + 2)).toInt = 114 ∧ (T (s + 3)).toInt = 116 := by
    constructor
    · intro h
      have h0 := h 0 (by decide)
      rw [if_pos (by omega), show (WORDB.getD (6 * 4 + 0) 0).toInt = 112 from by decide] at h0
      have h1 := h 1 (by decide)
      rw [if_pos (by omega), show (WORDB.getD (6 * 4 + 1) 0).toInt = 97 from by decide] at h1
      have h2 := h 2 (by decide)
      rw [if_pos (by omega), show (WORDB.getD (6 * 4 + 2) 0).toInt = 114 from by decide] at h2
      have h3 := h 3 (by decide)
      rw [if_pos (by omega), show (WORDB.getD (6 * 4 + 3) 0).toInt = 116 from by decide] at h3
      have h4 := h 4 (by decide)
      rw [if_neg (by omega), show (WORDB.getD (6 * 4 + 4) 0).toInt = 32 from by decide] at h4
      have h5 := h 5 (by decide)
      rw [if_neg (by omega), show (WORDB.getD (6 * 4 + 5) 0).toInt = 32 from by decide] at h5
      exact ⟨h0, h1, h2, h3⟩
    · rintro ⟨h0, h1, h2, h3⟩ k hk
      rcases (show k = 0 ∨ k = 1 ∨ k = 2 ∨ k = 3 ∨ k = 4 ∨ k = 5 by omega) with rfl | rfl | rfl | rfl | rfl | rfl
      · rw [if_pos (by omega), show (WORDB.getD (6 * 4 + 0) 0).toInt = 112 from by decide]
        exact h0
      · rw [if_pos (by omega), show (WORDB.getD (6 * 4 + 1) 0).toInt = 97 from by decide]
        exact h1
      · rw [if_pos (by omega), show (WORDB.getD (6 * 4 + 2) 0).toInt = 114 from by decide]
        exact h2
      · rw [if_pos (by omega), show (WORDB.getD (6 * 4 + 3) 0).toInt = 116 from by decide]
        exact h3
      · rw [if_neg (by omega), show (WORDB.getD (6 * 4 + 4) 0).toInt = 32 from by decide]
      · rw [if_neg (by omega), show (WORDB.getD (6 * 4 + 5) 0).toInt = 32 from by decide]
  have hv : wvV T s 4 = (((0 * 256 + (T (s + 0)).toInt) * 256 + (T (s + 1)).toInt) * 256 + (T (s + 2)).toInt) * 256 + (T (s + 3)).toInt := rfl
  have hk : wdK T s (s + 4) 5 = (if wdIs T s (s + 4) 4 then 4 else (if wdIs T s (s + 4) 0 then 0 else 9)) := by
    rw [wdK_s, wdK_s, wdK_s, wdK_s, wdK_s]
    rw [if_neg w3]
    rw [if_neg w2]
    rw [if_neg w1]
    rfl
  rw [hk, hv]
  by_cases c4 : (T (s + 0)).toInt = 112 ∧ (T (s + 1)).toInt = 97 ∧ (T (s + 2)).toInt = 114 ∧ (T (s + 3)).toInt = 116
  · rw [if_pos (w4.mpr c4)]
    refine ⟨⟨fun h => ?_, fun h => ?_⟩, ⟨fun h => ?_, fun h => ?_⟩, ⟨fun h => ?_, fun h => ?_⟩, ⟨fun h => ?_, fun h => ?_⟩, ⟨fun h => ?_, fun h => ?_⟩⟩ <;> omega
  · rw [if_neg (fun h => c4 (w4.mp h))]
    by_cases c0 : (T (s + 0)).toInt = 115 ∧ (T (s + 1)).toInt = 111 ∧ (T (s + 2)).toInt = 108 ∧ (T (s + 3)).toInt = 100
    · rw [if_pos (w0.mpr c0)]
      refine ⟨⟨fun h => ?_, fun h => ?_⟩, ⟨fun h => ?_, fun h => ?_⟩, ⟨fun h => ?_, fun h => ?_⟩, ⟨fun h => ?_, fun h => ?_⟩, ⟨fun h => ?_, fun h => ?_⟩⟩ <;> omega
    · rw [if_neg (fun h => c0 (w0.mp h))]
      refine ⟨⟨fun h => ?_, fun h => ?_⟩, ⟨fun h => ?_, fun h => ?_⟩, ⟨fun h => ?_, fun h => ?_⟩, ⟨fun h => ?_, fun h => ?_⟩, ⟨fun h => ?_, fun h => ?_⟩⟩ <;> omega
theorem wv_5 {T : Nat → Int32} {s : Nat} (l0 : 97 ≤ (T (s + 0)).toInt ∧ (T (s + 0)).toInt ≤ 122) (l1 : 97 ≤ (T (s + 1)).toInt ∧ (T (s + 1)).toInt ≤ 122) (l2 : 97 ≤ (T (s + 2)).toInt ∧ (T (s + 2)).toInt ≤ 122) (l3 : 97 ≤ (T (s + 3)).toInt ∧ (T (s + 3)).toInt ≤ 122) (l4 : 97 ≤ (T (s + 4)).toInt ∧ (T (s + 4)).toInt ≤ 122) : (wvV T s 5 = 1936682084 ↔ wdK T s (s + 5) 5 = 0) ∧ (wvV T s 5 = 495673374574 ↔ wdK T s (s + 5) 5 = 1) ∧ (wvV T s 5 = 7304564 ↔ wdK T s (s + 5) 5 = 2) ∧ (wvV T s 5 = 120282411197796 ↔ wdK T s (s + 5) 5 = 3) ∧ (wvV T s 5 = 1885434484 ↔ wdK T s (s + 5) 5 = 4) := by
  have w0 : ¬ wdIs T s (s + 5) 0 := by
    intro h
    have h0 := h 4 (by decide)
    rw [if_pos (by omega), show (WORDB.getD (6 * 0 + 4) 0).toInt = 32 from by decide] at h0
    omega
  have w1 : wdIs T s (s + 5) 1 ↔ (T (s + 0)).toInt = 115 ∧ (T (s + 1)).toInt = 104 ∧ (T (s + 2)).toInt = 111 ∧ (T (s + 3)).toInt = 119 ∧ (T (s + 4)).toInt = 110 := by
    constructor
    · intro h
      have h0 := h 0 (by decide)
      rw [if_pos (by omega), show (WORDB.getD (6 * 1 + 0) 0).toInt = 115 from by decide] at h0
      have h1 := h 1 (by decide)
      rw [if_pos (by omega), show (WORDB.getD (6 * 1 + 1) 0).toInt = 104 from by decide] at h1
      have h2 := h 2 (by decide)
      rw [if_pos (by omega), show (WORDB.getD (6 * 1 + 2) 0).toInt = 111 from by decide] at h2
      have h3 := h 3 (by decide)
      rw [if_pos (by omega), show (WORDB.getD (6 * 1 + 3) 0).toInt = 119 from by decide] at h3
      have h4 := h 4 (by decide)
      rw [if_pos (by omega), show (WORDB.getD (6 * 1 + 4) 0).toInt = 110 from by decide] at h4
      have h5 := h 5 (by decide)
      rw [if_neg (by omega), show (WORDB.getD (6 * 1 + 5) 0).toInt = 32 from by decide] at h5
      exact ⟨h0, h1, h2, h3, h4⟩
    · rintro ⟨h0, h1, h2, h3, h4⟩ k hk
      rcases (show k = 0 ∨ k = 1 ∨ k = 2 ∨ k = 3 ∨ k = 4 ∨ k = 5 by omega) with rfl | rfl | rfl | rfl | rfl | rfl
      · rw [if_pos (by omega), show (WORDB.getD (6 * 1 + 0) 0).toInt = 115 from by decide]
        exact h0
      · rw [if_pos (by omega), show (WORDB.getD (6 * 1 + 1) 0).toInt = 104 from by decide]
        exact h1
      · rw [if_pos (by omega), show (WORDB.getD (6 * 1 + 2) 0).toInt = 111 from by decide]
        exact h2
      · rw [if_pos (by omega), show (WORDB.getD (6 * 1 + 3) 0).toInt = 119 from by decide]
        exact h3
      · rw [if_pos (by omega), show (WORDB.getD (6 * 1 + 4) 0).toInt = 110 from by decide]
        exact h4
      · rw [if_neg (by omega), show (WORDB.getD (6 * 1 + 5) 0).toInt = 32 from by decide]
  have w2 : ¬ wdIs T s (s + 5) 2 := by
    intro h
    have h0 := h 3 (by decide)
    rw [if_pos (by omega), show (WORDB.getD (6 * 2 + 3) 0).toInt = 32 from by decide] at h0
    omega
  have w3 : ¬ wdIs T s (s + 5) 3 := by
    intro h
    have h0 := h 5 (by decide)
    rw [if_neg (by omega), show (WORDB.getD (6 * 3 + 5) 0).toInt = 100 from by decide] at h0
    omega
  have w4 : ¬ wdIs T s (s + 5) 4 := by
    intro h
    have h0 := h 4 (by decide)
    rw [if_pos (by omega), show (WORDB.getD (6 * 4 + 4) 0).toInt = 32 from by decide] at h0
    omega
  have hv : wvV T s 5 = ((((0 * 256 + (T (s + 0)).toInt) * 256 + (T (s + 1)).toInt) * 256 + (T (s + 2)).toInt) * 256 + (T (s + 3)).toInt) * 256 + (T (s + 4)).toInt := rfl
  have hk : wdK T s (s + 5) 5 = (if wdIs T s (s + 5) 1 then 1 else 9) := by
    rw [wdK_s, wdK_s, wdK_s, wdK_s, wdK_s]
    rw [if_neg w4]
    rw [if_neg w3]
    rw [if_neg w2]
    rw [if_neg w0]
    rfl
  rw [hk, hv]
  by_cases c1 : (T (s + 0)).toInt = 115 ∧ (T (s + 1)).toInt = 104 ∧ (T (s + 2)).toInt = 111 ∧ (T (s + 3)).toInt = 119 ∧ (T (s + 4)).toInt = 110
  · rw [if_pos (w1.mpr c1)]
    refine ⟨⟨fun h => ?_, fun h => ?_⟩, ⟨fun h => ?_, fun h => ?_⟩, ⟨fun h => ?_, fun h => ?_⟩, ⟨fun h => ?_, fun h => ?_⟩, ⟨fun h => ?_, fun h => ?_⟩⟩ <;> omega
  · rw [if_neg (fun h => c1 (w1.mp h))]
    refine ⟨⟨fun h => ?_, fun h => ?_⟩, ⟨fun h => ?_, fun h => ?_⟩, ⟨fun h => ?_, fun h => ?_⟩, ⟨fun h => ?_, fun h => ?_⟩, ⟨fun h => ?_, fun h => ?_⟩⟩ <;> omega
theorem wv_6 {T : Nat → Int32} {s : Nat} (l0 : 97 ≤ (T (s + 0)).toInt ∧ (T (s + 0)).toInt ≤ 122) (l1 : 97 ≤ (T (s + 1)).toInt ∧ (T (s + 1)).toInt ≤ 122) (l2 : 97 ≤ (T (s + 2)).toInt ∧ (T (s + 2)).toInt ≤ 122) (l3 : 97 ≤ (T (s + 3)).toInt ∧ (T (s + 3)).toInt ≤ 122) (l4 : 97 ≤ (T (s + 4)).toInt ∧ (T (s + 4)).toInt ≤ 122) (l5 : 97 ≤ (T (s + 5)).toInt ∧ (T (s + 5)).toInt ≤ 122) : (wvV T s 6 = 1936682084 ↔ wdK T s (s + 6) 5 = 0) ∧ (wvV T s 6 = 495673374574 ↔ wdK T s (s + 6) 5 = 1) ∧ (wvV T s 6 = 7304564 ↔ wdK T s (s + 6) 5 = 2) ∧ (wvV T s 6 = 120282411197796 ↔ wdK T s (s + 6) 5 = 3) ∧ (wvV T s 6 = 1885434484 ↔ wdK T s (s + 6) 5 = 4) := by
  have w0 : ¬ wdIs T s (s + 6) 0 := by
    intro h
    have h0 := h 4 (by decide)
    rw [if_pos (by omega), show (WORDB.getD (6 * 0 + 4) 0).toInt = 32 from by decide] at h0
    omega
  have w1 : ¬ wdIs T s (s + 6) 1 := by
    intro h
    have h0 := h 5 (by decide)
    rw [if_pos (by omega), show (WORDB.getD (6 * 1 + 5) 0).toInt = 32 from by decide] at h0
    omega
  have w2 : ¬ wdIs T s (s + 6) 2 := by
    intro h
    have h0 := h 3 (by decide)
    rw [if_pos (by omega), show (WORDB.getD (6 * 2 + 3) 0).toInt = 32 from by decide] at h0
    omega
  have w3 : wdIs T s (s + 6) 3 ↔ (T (s + 0)).toInt = 109 ∧ (T (s + 1)).toInt = 101 ∧ (T (s + 2)).toInt = 110 ∧ (T (s + 3)).toInt = 100 ∧ (T (s + 4)).toInt = 101 ∧ (T (s + 5)).toInt = 100 := by
    constructor
    · intro h
      have h0 := h 0 (by decide)
      rw [if_pos (by omega), show (WORDB.getD (6 * 3 + 0) 0).toInt = 109 from by decide] at h0
      have h1 := h 1 (by decide)
      rw [if_pos (by omega), show (WORDB.getD (6 * 3 + 1) 0).toInt = 101 from by decide] at h1
      have h2 := h 2 (by decide)
      rw [if_pos (by omega), show (WORDB.getD (6 * 3 + 2) 0).toInt = 110 from by decide] at h2
      have h3 := h 3 (by decide)
      rw [if_pos (by omega), show (WORDB.getD (6 * 3 + 3) 0).toInt = 100 from by decide] at h3
      have h4 := h 4 (by decide)
      rw [if_pos (by omega), show (WORDB.getD (6 * 3 + 4) 0).toInt = 101 from by decide] at h4
      have h5 := h 5 (by decide)
      rw [if_pos (by omega), show (WORDB.getD (6 * 3 + 5) 0).toInt = 100 from by decide] at h5
      exact ⟨h0, h1, h2, h3, h4, h5⟩
    · rintro ⟨h0, h1, h2, h3, h4, h5⟩ k hk
      rcases (show k = 0 ∨ k = 1 ∨ k = 2 ∨ k = 3 ∨ k = 4 ∨ k = 5 by omega) with rfl | rfl | rfl | rfl | rfl | rfl
      · rw [if_pos (by omega), show (WORDB.getD (6 * 3 + 0) 0).toInt = 109 from by decide]
        exact h0
      · rw [if_pos (by omega), show (WORDB.getD (6 * 3 + 1) 0).toInt = 101 from by decide]
        exact h1
      · rw [if_pos (by omega), show (WORDB.getD (6 * 3 + 2) 0).toInt = 110 from by decide]
        exact h2
      · rw [if_pos (by omega), show (WORDB.getD (6 * 3 + 3) 0).toInt = 100 from by decide]
        exact h3
      · rw [if_pos (by omega), show (WORDB.getD (6 * 3 + 4) 0).toInt = 101 from by decide]
        exact h4
      · rw [if_pos (by omega), show (WORDB.getD (6 * 3 + 5) 0).toInt = 100 from by decide]
        exact h5
  have w4 : ¬ wdIs T s (s + 6) 4 := by
    intro h
    have h0 := h 4 (by decide)
    rw [if_pos (by omega), show (WORDB.getD (6 * 4 + 4) 0).toInt = 32 from by decide] at h0
    omega
  have hv : wvV T s 6 = (((((0 * 256 + (T (s + 0)).toInt) * 256 + (T (s + 1)).toInt) * 256 + (T (s + 2)).toInt) * 256 + (T (s + 3)).toInt) * 256 + (T (s + 4)).toInt) * 256 + (T (s + 5)).toInt := rfl
  have hk : wdK T s (s + 6) 5 = (if wdIs T s (s + 6) 3 then 3 else 9) := by
    rw [wdK_s, wdK_s, wdK_s, wdK_s, wdK_s]
    rw [if_neg w4]
    rw [if_neg w2]
    rw [if_neg w1]
    rw [if_neg w0]
    rfl
  rw [hk, hv]
  by_cases c3 : (T (s + 0)).toInt = 109 ∧ (T (s + 1)).toInt = 101 ∧ (T (s + 2)).toInt = 110 ∧ (T (s + 3)).toInt = 100 ∧ (T (s + 4)).toInt = 101 ∧ (T (s + 5)).toInt = 100
  · rw [if_pos (w3.mpr c3)]
    refine ⟨⟨fun h => ?_, fun h => ?_⟩, ⟨fun h => ?_, fun h => ?_⟩, ⟨fun h => ?_, fun h => ?_⟩, ⟨fun h => ?_, fun h => ?_⟩, ⟨fun h => ?_, fun h => ?_⟩⟩ <;> omega
  · rw [if_neg (fun h => c3 (w3.mp h))]
    refine ⟨⟨fun h => ?_, fun h => ?_⟩, ⟨fun h => ?_, fun h => ?_⟩, ⟨fun h => ?_, fun h => ?_⟩, ⟨fun h => ?_, fun h => ?_⟩, ⟨fun h => ?_, fun h => ?_⟩⟩ <;> omega
theorem wv_code {T : Nat → Int32} {s e : Nat} (h1 : s < e) (h2 : e ≤ s + 6) (hl : ∀ i, s ≤ i → i < e → 97 ≤ (T i).toInt ∧ (T i).toInt ≤ 122) : (wvV T s (e - s) = 1936682084 ↔ wdK T s e 5 = 0) ∧ (wvV T s (e - s) = 495673374574 ↔ wdK T s e 5 = 1) ∧ (wvV T s (e - s) = 7304564 ↔ wdK T s e 5 = 2) ∧ (wvV T s (e - s) = 120282411197796 ↔ wdK T s e 5 = 3) ∧ (wvV T s (e - s) = 1885434484 ↔ wdK T s e 5 = 4) := by
  rcases (show e = s + 1 ∨ e = s + 2 ∨ e = s + 3 ∨ e = s + 4 ∨ e = s + 5 ∨ e = s + 6 by omega) with rfl | rfl | rfl | rfl | rfl | rfl
  · rw [show s + 1 - s = 1 by omega]
    exact wv_1 (hl (s + 0) (by omega) (by omega))
  · rw [show s + 2 - s = 2 by omega]
    exact wv_2 (hl (s + 0) (by omega) (by omega)) (hl (s + 1) (by omega) (by omega))
  · rw [show s + 3 - s = 3 by omega]
    exact wv_3 (hl (s + 0) (by omega) (by omega)) (hl (s + 1) (by omega) (by omega)) (hl (s + 2) (by omega) (by omega))
  · rw [show s + 4 - s = 4 by omega]
    exact wv_4 (hl (s + 0) (by omega) (by omega)) (hl (s + 1) (by omega) (by omega)) (hl (s + 2) (by omega) (by omega)) (hl (s + 3) (by omega) (by omega))
  · rw [show s + 5 - s = 5 by omega]
    exact wv_5 (hl (s + 0) (by omega) (by omega)) (hl (s + 1) (by omega) (by omega)) (hl (s + 2) (by omega) (by omega)) (hl (s + 3) (by omega) (by omega)) (hl (s + 4) (by omega) (by omega))
  · rw [show s + 6 - s = 6 by omega]
    exact wv_6 (hl (s + 0) (by omega) (by omega)) (hl (s + 1) (by omega) (by omega)) (hl (s + 2) (by omega) (by omega)) (hl (s + 3) (by omega) (by omega)) (hl (s + 4) (by omega) (by omega)) (hl (s + 5) (by omega) (by omega))

/-- the bytes of the reference's tape -/
def okB (n : Int32) (mtp : Nat → Int32) : Prop := ∀ j : Nat, (j : Int) < n.toInt → 0 ≤ (mtp j).toInt ∧ (mtp j).toInt ≤ 255
theorem nn_tn {x : Int64} (h : 0 ≤ x.toInt) : (x.toBitVec.toNat : Int) = x.toInt := by
  have e : x.toInt = x.toBitVec.toInt := rfl
  rw [e] at h ⊢
  rw [BitVec.toInt_eq_toNat_cond] at h ⊢
  have hlt := x.toBitVec.isLt
  split at h
  · rename_i g
    rw [if_pos g]
  · omega
theorem tn_nn {x : Int64} (h : x.toBitVec.toNat < 9223372036854775808) : x.toInt = (x.toBitVec.toNat : Int) := by
  have e : x.toInt = x.toBitVec.toInt := rfl
  rw [e, BitVec.toInt_eq_toNat_cond, if_pos (by omega)]
/-- a letter behind a word -/
theorem sh8 {v z : Int64} {t : Int32} (h0 : 0 ≤ v.toInt) (h1 : v.toInt < 140737488355328) (t0 : 0 ≤ t.toInt) (t1 : t.toInt ≤ 255) (e : z = (v <<< ((8 : Int32).toInt64 &&& 63)) ||| t.toInt64) : z.toInt = v.toInt * 256 + t.toInt := by
  have hv := nn_tn h0
  have ht : (t.toInt64.toBitVec.toNat : Int) = t.toInt := by
    have h9 := nn_tn (x := t.toInt64) (by rw [i_w]; exact t0)
    rw [i_w] at h9
    exact h9
  have hs : (v <<< ((8 : Int32).toInt64 &&& 63)).toBitVec = v.toBitVec <<< 8 := by
    rw [Int64.toBitVec_shiftLeft]
    show v.toBitVec <<< (((nI 8).toInt64 &&& 63).toBitVec.smod 64).toNat = _
    rw [sL_l 8 (by decide)]
  have hn : z.toBitVec.toNat = v.toBitVec.toNat * 256 + t.toInt64.toBitVec.toNat := by
    rw [e, Int64.toBitVec_or, hs, BitVec.toNat_or, BitVec.toNat_shiftLeft, Nat.mod_eq_of_lt (by rw [Nat.shiftLeft_eq]; omega), ← Nat.shiftLeft_add_eq_or_of_lt (by omega), Nat.shiftLeft_eq]
  rw [tn_nn (by omega), hn]
  omega
theorem mk_lt {T : Nat → Int32} {L c : Nat} (h : c ≤ L) : mK T L c = 1 ∨ tS T L c < tE T L c := by
  have hE := tE_le (T := T) h
  by_cases h1 : tS T L c < L
  · exact Or.inr (hE.2.2 h1)
  · exact Or.inl (mk_end rfl h1)
theorem tK_rng {T : Nat → Int32} {L c : Nat} (h : c ≤ L) : 0 ≤ tK T L c ∧ tK T L c ≤ 9 := by
  rcases mk_tk (T := T) h with q | q | q | q | q | ⟨-, q, -⟩
  · omega
  · omega
  · omega
  · omega
  · omega
  · have r := wdK_rng T (tS T L c) (tE T L c) 5 (by omega)
    omega
theorem wd_tk {T : Nat → Int32} {L c : Nat} {z : Int} (h : c ≤ L) (e : z = if mK T L c = 2 then wvV T (tS T L c) (tE T L c - tS T L c) else 0) : (z = 1936682084 ↔ tK T L c = 0) ∧ (z = 495673374574 ↔ tK T L c = 1) ∧ (z = 7304564 ↔ tK T L c = 2) ∧ (z = 120282411197796 ↔ tK T L c = 3) ∧ (z = 1885434484 ↔ tK T L c = 4) := by
  by_cases q : mK T L c = 2
  · rw [if_pos q] at e
    rcases mk_tk (T := T) h with p | p | p | p | p | ⟨-, p1, p2, p3, p4⟩
    · omega
    · omega
    · omega
    · omega
    · omega
    · rw [e, p1]
      exact wv_code p2 p3 p4
  · rw [if_neg q] at e
    have r : 5 ≤ tK T L c := by
      rcases mk_tk (T := T) h with p | p | p | p | p | ⟨p, -⟩
      · omega
      · omega
      · omega
      · omega
      · omega
      · exact absurd p q
    refine ⟨⟨fun h => ?_, fun h => ?_⟩, ⟨fun h => ?_, fun h => ?_⟩, ⟨fun h => ?_, fun h => ?_⟩, ⟨fun h => ?_, fun h => ?_⟩, ⟨fun h => ?_, fun h => ?_⟩⟩ <;> omega
theorem acP_le {T : Nat → Int32} {L c : Nat} (h : c ≤ L) : acP T L c ≤ L := by
  have e2 := (tE_le (T := T) h).2.1
  have e3 := (tE_le (T := T) e2).2.1
  unfold acP
  (repeat' split) <;> omega
theorem dcF_rng {T : Nat → Int32} {L n : Nat} : 0 ≤ dcF T L n ∧ dcF T L n ≤ 3 := by
  have hp : ∀ c, 0 ≤ paR T L c ∧ paR T L c ≤ 2 := fun c => by
    unfold paR
    (repeat' split) <;> omega
  have hl : 0 ≤ lnR T L (poL T L n) ∧ lnR T L (poL T L n) ≤ 2 := by
    have h9 := hp (tE T L (acP T L (tE T L (poL T L n))))
    unfold lnR
    (repeat' split) <;> omega
  unfold dcF
  (repeat' split) <;> omega
/-- the lines, as the reference keeps them -/
def mlQ (T : Nat → Int32) (L n : Nat) (f : Nat → Int32) : Prop := ∀ j, j < n → (f (3 * j)).toInt = tK T L (poL T L j) ∧ (f (3 * j + 1)).toInt = lnD T L (poL T L j) ∧ (f (3 * j + 2)).toInt = lnP T L (poL T L j)
theorem mlQ_up {T : Nat → Int32} {L n m a b c : Nat} {f : Nat → Int32} {x y z : Int32} (h : mlQ T L n f) (hm : m = n + 1) (ha : a = 3 * n) (hb : b = 3 * n + 1) (hc : c = 3 * n + 2) (hx : x.toInt = tK T L (poL T L n)) (hy : y.toInt = lnD T L (poL T L n)) (hz : z.toInt = lnP T L (poL T L n)) : mlQ T L m (upd (upd (upd f a x) b y) c z) := by
  intro j hj
  by_cases e : j = n
  · rw [e, ← hb, ← hc, ← ha, upd_n _ _ (show a ≠ c by omega), upd_n _ _ (show a ≠ b by omega), upd_s, upd_n _ _ (show b ≠ c by omega), upd_s, upd_s]
    exact ⟨hx, hy, hz⟩
  · have h9 := h j (by omega)
    rw [upd_n _ _ (show 3 * j ≠ c by omega), upd_n _ _ (show 3 * j ≠ b by omega), upd_n _ _ (show 3 * j ≠ a by omega), upd_n _ _ (show 3 * j + 1 ≠ c by omega), upd_n _ _ (show 3 * j + 1 ≠ b by omega), upd_n _ _ (show 3 * j + 1 ≠ a by omega), upd_n _ _ (show 3 * j + 2 ≠ c by omega), upd_n _ _ (show 3 * j + 2 ≠ b by omega), upd_n _ _ (show 3 * j + 2 ≠ a by omega)]
    exact h9
def mdP (T : Nat → Int32) (L : Nat) (r mlt mln mlt' mln' : Int32) (mli mli' : Nat → Int32) : Prop := ∃ n, n ≤ 12 ∧ duOk T L n ∧ ((tK T L (poL T L n) = 8 ∧ r.toInt = n ∧ mlt' = mlt ∧ mln'.toInt = n ∧ mlQ T L n mli') ∨ (¬ tK T L (poL T L n) = 8 ∧ ¬ dcF T L n = 0 ∧ mlt'.toInt = dcF T L n ∧ r.toInt = -1000100 - (dpF T L n : Int) ∧ mln' = mln ∧ mli' = mli))
theorem run_fig {T : Nat → Int32} {L s : Nat} : ∀ j, s ≤ j → j < runTo fiB T L s → 48 ≤ (T j).toInt ∧ (T j).toInt ≤ 57 := fun j h1 h2 => of_decide_eq_true (runE_all _ _ j h1 h2)
theorem nm_bd {T : Nat → Int32} {s : Nat} (n : Nat) (h : n ≤ 4) (hf : ∀ j, j < n → 48 ≤ (T (s + j)).toInt ∧ (T (s + j)).toInt ≤ 57) : 0 ≤ nmV T s n ∧ nmV T s n ≤ 9999 := by
  rcases (show n = 0 ∨ n = 1 ∨ n = 2 ∨ n = 3 ∨ n = 4 by omega) with rfl | rfl | rfl | rfl | rfl
  · exact ⟨Int.le_refl _, by show (0 : Int) ≤ 9999; decide⟩
  · have h0 := hf 0 (by omega)
    rw [nmV_s, show nmV T s 0 = 0 from rfl]; omega
  · have h0 := hf 0 (by omega)
    have h1 := hf 1 (by omega)
    rw [nmV_s, nmV_s, show nmV T s 0 = 0 from rfl]; omega
  · have h0 := hf 0 (by omega)
    have h1 := hf 1 (by omega)
    have h2 := hf 2 (by omega)
    rw [nmV_s, nmV_s, nmV_s, show nmV T s 0 = 0 from rfl]; omega
  · have h0 := hf 0 (by omega)
    have h1 := hf 1 (by omega)
    have h2 := hf 2 (by omega)
    have h3 := hf 3 (by omega)
    rw [nmV_s, nmV_s, nmV_s, nmV_s, show nmV T s 0 = 0 from rfl]; omega
theorem tN_rng {T : Nat → Int32} {L c : Nat} (h : c ≤ L) (hk : mK T L c = 3) : 0 ≤ tN T L c ∧ tN T L c ≤ 9999 := by
  have hE := tE_le (T := T) h
  by_cases h1 : tS T L c < L
  · by_cases hl : 97 ≤ (T (tS T L c)).toInt ∧ (T (tS T L c)).toInt ≤ 122
    · have m1 := mk_let rfl h1 hl rfl
      split at m1 <;> omega
    · by_cases hf : 48 ≤ (T (tS T L c)).toInt ∧ (T (tS T L c)).toInt ≤ 57
      · obtain ⟨e1, -, e3⟩ := tok_fig rfl h1 hf rfl
        have m1 := mk_fig rfl h1 hf rfl
        split at m1
        · omega
        · rename_i q
          rw [e3, ← e1]
          exact nm_bd _ (by omega) (fun j hj => run_fig (L := L) (s := tS T L c) _ (by omega) (by rw [← e1]; omega))
      · have m1 := mk_sgn rfl h1 hl hf
        split at m1 <;> omega
  · have m1 := mk_end rfl h1
    omega
theorem md_0 {T : Nat → Int32} {L : Nat} {fr cu tk : Int32} (h1 : fr.toInt = (tS T L ((0 : Int32).toNatClampNeg) : Int)) (h2 : cu.toInt = (tE T L ((0 : Int32).toNatClampNeg) : Int)) (h3 : tk.toInt = mK T L ((0 : Int32).toNatClampNeg)) : (0 : Int32).toInt = 0 ∧ fr.toInt = (tS T L (poL T L ((0 : Int32).toNatClampNeg)) : Int) ∧ cu.toInt = (tE T L (poL T L ((0 : Int32).toNatClampNeg)) : Int) ∧ tk.toInt = mK T L (poL T L ((0 : Int32).toNatClampNeg)) := by
  have z0 : (0 : Int32).toNatClampNeg = 0 := rfl
  rw [z0] at h1 h2 h3 ⊢
  exact ⟨rfl, h1, h2, h3⟩
theorem duOk_0 {T : Nat → Int32} {L : Nat} : duOk T L ((0 : Int32).toNatClampNeg) := fun j hj => absurd hj (by show ¬ j < (0 : Int32).toNatClampNeg; have z0 : (0 : Int32).toNatClampNeg = 0 := rfl; omega)
theorem mlQ_0 {T : Nat → Int32} {L : Nat} {f : Nat → Int32} : mlQ T L ((0 : Int32).toNatClampNeg) f := fun j hj => absurd hj (by show ¬ j < (0 : Int32).toNatClampNeg; have z0 : (0 : Int32).toNatClampNeg = 0 := rfl; omega)
/-! ===== the tape that is fed ===== -/
/-- bytes behind a tape: what stood there stays; the new ones, by their places -/
def fdQ (f : Int32 → Int32) (t0 t : Nat → Int32) (a b n : Int) : Prop := (∀ j : Nat, (j : Int) < a → t j = t0 j) ∧ (∀ (j : Nat) (k : Int32), a ≤ (j : Int) → (j : Int) < b → k.toInt = 8 * (a + n - 1 - (j : Int)) → t j = f k)
theorem fdQ_0 {f : Int32 → Int32} {t : Nat → Int32} {a n : Int} : fdQ f t t a a n := ⟨fun _ _ => rfl, fun j k h1 h2 => by omega⟩
theorem fdQ_up {f : Int32 → Int32} {t0 t : Nat → Int32} {a b b' n : Int} {i : Nat} {x : Int32} (h : fdQ f t0 t a b n) (hi : (i : Int) = b) (hx : ∀ k : Int32, k.toInt = 8 * (a + n - 1 - b) → x = f k) (hb : b' = b + 1) (hab : a ≤ b) : fdQ f t0 (upd t i x) a b' n := by
  refine ⟨fun j hj => ?_, fun j k h1 h2 h3 => ?_⟩
  · rw [upd_n _ _ (by omega)]; exact h.1 j hj
  · by_cases e : j = i
    · rw [e, upd_s]
      exact hx k (by rw [h3, e]; omega)
    · rw [upd_n _ _ e]; exact h.2 j k h1 (by omega) h3
def cbV (w : Int64) (k : Int32) : Int32 := vp_nar .byte (w.toUInt64 >>> (k.toInt64.toUInt64 &&& Int64.toUInt64 63)).toInt64.toInt32.toInt8.toInt32
def mbV (w : Int64) (k : Int32) : Int32 := ((w >>> (k.toInt64 &&& 63)) &&& 255).toInt32
/-- what feed leaves of the tape -/
def fdP (f : Int32 → Int32) (ln n : Int32) (t t' : Nat → Int32) : Prop := (1 ≤ n.toInt → n.toInt ≤ 8 → ln.toInt + n.toInt ≤ 300 → fdQ f t t' ln.toInt (ln.toInt + n.toInt) n.toInt) ∧ (¬ (1 ≤ n.toInt ∧ n.toInt ≤ 8 ∧ ln.toInt + n.toInt ≤ 300) → t' = t)
/-- a byte of the class beside one of the reference -/
def bR (x y : Int32) : Prop := (0 ≤ y.toInt ∧ y.toInt ≤ 127 ∧ x.toInt = y.toInt) ∨ (128 ≤ y.toInt ∧ y.toInt ≤ 255 ∧ x.toInt = y.toInt - 256)
def tpR (ln : Int32) (tp mtp : Nat → Int32) : Prop := ∀ j : Nat, (j : Int) < ln.toInt → bR (tp j) (mtp j)
theorem tpR_okB {ln : Int32} {tp mtp : Nat → Int32} (h : tpR ln tp mtp) : okB ln mtp := fun j hj => by
  have h9 := h j hj
  unfold bR at h9
  omega
theorem nar8 (x : Int8) : vp_nar .byte x.toInt32 = x.toInt32 := by
  show x.toInt32.toInt8.toInt32 = x.toInt32
  rw [Int8.toInt8_toInt32]
theorem sL_u : ∀ n, n < 64 → (((nI n).toInt64.toUInt64 &&& Int64.toUInt64 63).toBitVec % 64).toNat = n := by decide +kernel
theorem bL_ushr (n : Nat) (hn : n < 64) (x : Int64) (i : Nat) : btL ((x.toUInt64 >>> ((nI n).toInt64.toUInt64 &&& Int64.toUInt64 63)).toInt64) i = btL x (n + i) := by
  show (x.toUInt64 >>> ((nI n).toInt64.toUInt64 &&& Int64.toUInt64 63)).toBitVec.getLsbD i = x.toUInt64.toBitVec.getLsbD (n + i)
  rw [UInt64.toBitVec_shiftRight]
  show (x.toUInt64.toBitVec >>> (((nI n).toInt64.toUInt64 &&& Int64.toUInt64 63).toBitVec % 64).toNat).getLsbD i = _
  rw [sL_u n hn, BitVec.getLsbD_ushiftRight]
theorem low8 {x y : Int64} (h : ∀ i, i < 8 → btL x i = btL y i) : x.toBitVec.toNat % 256 = y.toBitVec.toNat % 256 := by
  apply Nat.eq_of_testBit_eq
  intro i
  rw [show (256 : Nat) = 2 ^ 8 from rfl, Nat.testBit_mod_two_pow, Nat.testBit_mod_two_pow]
  by_cases l : i < 8
  · have h9 := h i l
    unfold btL at h9
    rw [show x.toBitVec.toNat.testBit i = x.toBitVec.getLsbD i from rfl, show y.toBitVec.toNat.testBit i = y.toBitVec.getLsbD i from rfl, h9]
  · rw [decide_eq_false l]; rfl
theorem l_mod {x : Int64} : x.toInt % 256 = ((x.toBitVec.toNat % 256 : Nat) : Int) := by
  have e : x.toInt = x.toBitVec.toInt := rfl
  rw [e, BitVec.toInt_eq_toNat_cond]
  split
  · omega
  · omega
theorem bR_cm {w : Int64} {k : Int32} (h0 : 0 ≤ k.toInt) (h1 : k.toInt ≤ 56) : bR (cbV w k) (mbV w k) := by
  have hc := i_cl h0
  have ek : nI k.toNatClampNeg = k := i_nI h0
  have hb : ∀ i, i < 8 → btL ((w.toUInt64 >>> (k.toInt64.toUInt64 &&& Int64.toUInt64 63)).toInt64) i = btL (w >>> (k.toInt64 &&& 63)) i := by
    intro i hi
    have a1 := bL_ushr k.toNatClampNeg (by omega) w i
    have a2 := bL_sshr k.toNatClampNeg (by omega) w (i := i) (by omega)
    rw [ek] at a1 a2
    rw [a1, a2, if_pos (by omega)]
  have hl := low8 hb
  have hx := l_mod (x := (w.toUInt64 >>> (k.toInt64.toUInt64 &&& Int64.toUInt64 63)).toInt64)
  have hcb : (cbV w k).toInt = (w.toUInt64 >>> (k.toInt64.toUInt64 &&& Int64.toUInt64 63)).toInt64.toInt.bmod (2 ^ 8) := by
    unfold cbV
    rw [nar8, Int8.toInt_toInt32, Int64.toInt8_toInt32, Int64.toInt_toInt8]
  have hmb : (mbV w k).toInt = (((w >>> (k.toInt64 &&& 63)).toBitVec.toNat % 256 : Nat) : Int) := by
    have hn : ((w >>> (k.toInt64 &&& 63)) &&& 255).toBitVec.toNat = (w >>> (k.toInt64 &&& 63)).toBitVec.toNat % 256 := by
      rw [Int64.toBitVec_and, BitVec.toNat_and, show (255 : Int64).toBitVec.toNat = 2 ^ 8 - 1 from by decide, Nat.and_two_pow_sub_one_eq_mod]
    unfold mbV
    rw [Int64.toInt_toInt32, tn_nn (by rw [hn]; omega), hn]
    exact i_bmod (by omega) (by omega)
  generalize (w.toUInt64 >>> (k.toInt64.toUInt64 &&& Int64.toUInt64 63)).toInt64 = X at hl hx hcb
  rw [Int.bmod_def] at hcb
  unfold bR
  rw [hmb, hcb, ← hl]
  omega
def sp_feed (ln n : Int32) : Int32 := if 1 ≤ n.toInt ∧ n.toInt ≤ 8 then (if 300 < ln.toInt + n.toInt then -1000003 else ln + n) else -1000001
def sq_feed (ln n : Int32) : Int32 := if 1 ≤ n.toInt ∧ n.toInt ≤ 8 then (if 300 < ln.toInt + n.toInt then ln else ln + n) else ln
