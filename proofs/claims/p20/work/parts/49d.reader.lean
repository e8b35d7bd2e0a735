
/-! ===== the tape read by both ===== -/
theorem bR_sp {x y : Int32} (h : bR x y) : spB x.toInt = spB y.toInt := by
  unfold spB
  unfold bR at h
  exact decide_eq_decide.mpr ⟨fun z => by omega, fun z => by omega⟩
theorem bR_le {x y : Int32} (h : bR x y) : leB x.toInt = leB y.toInt := by
  unfold leB
  unfold bR at h
  exact decide_eq_decide.mpr ⟨fun z => by omega, fun z => by omega⟩
theorem bR_fi {x y : Int32} (h : bR x y) : fiB x.toInt = fiB y.toInt := by
  unfold fiB
  unfold bR at h
  exact decide_eq_decide.mpr ⟨fun z => by omega, fun z => by omega⟩
theorem runE_c {P : Int → Bool} {T T' : Nat → Int32} {L : Nat} (h : ∀ j, j < L → P (T j).toInt = P (T' j).toInt) (f i : Nat) : runE P T L f i = runE P T' L f i := by
  induction f generalizing i with
  | zero => rfl
  | succ f ih =>
    show (if i < L ∧ P (T i).toInt = true then runE P T L f (i + 1) else i) = (if i < L ∧ P (T' i).toInt = true then runE P T' L f (i + 1) else i)
    rw [ih]
    by_cases l : i < L
    · rw [h i l]
    · rw [if_neg (fun z => l z.1), if_neg (fun z => l z.1)]
section READ
variable {T T' : Nat → Int32} {L : Nat}
theorem tS_c (h : ∀ j, j < L → bR (T j) (T' j)) (c : Nat) : tS T L c = tS T' L c := runE_c (fun j hj => bR_sp (h j hj)) _ _
theorem tE_c (h : ∀ j, j < L → bR (T j) (T' j)) (c : Nat) : tE T L c = tE T' L c := by
  unfold tE
  rw [tS_c h c]
  by_cases l : tS T' L c < L
  · have b := h _ l
    unfold bR at b
    rw [if_pos l, if_pos l]
    by_cases q : 97 ≤ (T' (tS T' L c)).toInt ∧ (T' (tS T' L c)).toInt ≤ 122
    · rw [if_pos q, if_pos (by omega)]
      exact runE_c (fun j hj => bR_le (h j hj)) _ _
    · rw [if_neg q, if_neg (by omega)]
      by_cases q2 : 48 ≤ (T' (tS T' L c)).toInt ∧ (T' (tS T' L c)).toInt ≤ 57
      · rw [if_pos q2, if_pos (by omega)]
        exact runE_c (fun j hj => bR_fi (h j hj)) _ _
      · rw [if_neg q2, if_neg (by omega)]
  · rw [if_neg l, if_neg l]
theorem wdb_rng : ∀ i, i < 30 → 0 ≤ (WORDB.getD i 0).toInt ∧ (WORDB.getD i 0).toInt ≤ 127 := by decide +kernel
theorem wdIs_c (h : ∀ j, j < L → bR (T j) (T' j)) {s e w : Nat} (he : e ≤ L) (hw : w < 5) : wdIs T s e w ↔ wdIs T' s e w := by
  have key : ∀ k, k < 6 → ((if s + k < e then (T (s + k)).toInt else 32) = (WORDB.getD (6 * w + k) 0).toInt ↔ (if s + k < e then (T' (s + k)).toInt else 32) = (WORDB.getD (6 * w + k) 0).toInt) := by
    intro k hk
    have r := wdb_rng (6 * w + k) (by omega)
    by_cases l : s + k < e
    · have b := h (s + k) (by omega)
      unfold bR at b
      rw [if_pos l, if_pos l]
      constructor <;> intro z <;> omega
    · rw [if_neg l, if_neg l]
  exact ⟨fun z k hk => (key k hk).mp (z k hk), fun z k hk => (key k hk).mpr (z k hk)⟩
theorem wdK_c (h : ∀ j, j < L → bR (T j) (T' j)) {s e : Nat} (he : e ≤ L) (w : Nat) (hw : w ≤ 5) : wdK T s e w = wdK T' s e w := by
  induction w with
  | zero => rfl
  | succ w ih =>
    rw [wdK_s, wdK_s, ih (by omega)]
    have i := wdIs_c h (s := s) (w := w) he (by omega)
    by_cases q : wdIs T' s e w
    · rw [if_pos q, if_pos (i.mpr q)]
    · rw [if_neg q, if_neg (fun z => q (i.mp z))]
theorem tK_c (h : ∀ j, j < L → bR (T j) (T' j)) {c : Nat} (hc : c ≤ L) : tK T L c = tK T' L c := by
  have hE := tE_le (T := T') hc
  unfold tK
  rw [tE_c h c, tS_c h c]
  by_cases l : tS T' L c < L
  · have b := h _ l
    unfold bR at b
    rw [if_pos l, if_pos l]
    by_cases q : 97 ≤ (T' (tS T' L c)).toInt ∧ (T' (tS T' L c)).toInt ≤ 122
    · rw [if_pos q, if_pos (by omega), wdK_c h hE.2.1 5 (by omega)]
    · rw [if_neg q, if_neg (by omega)]
      by_cases q2 : 48 ≤ (T' (tS T' L c)).toInt ∧ (T' (tS T' L c)).toInt ≤ 57
      · rw [if_pos q2, if_pos (by omega)]
      · rw [if_neg q2, if_neg (by omega)]
        by_cases q3 : (T' (tS T' L c)).toInt = 59
        · rw [if_pos q3, if_pos (by omega)]
        · rw [if_neg q3, if_neg (by omega)]
          by_cases q4 : (T' (tS T' L c)).toInt = 62
          · rw [if_pos q4, if_pos (by omega)]
          · rw [if_neg q4, if_neg (by omega)]
  · rw [if_neg l, if_neg l]
theorem nmV_c {s : Nat} (n : Nat) (h : ∀ j, j < n → (T (s + j)).toInt = (T' (s + j)).toInt) : nmV T s n = nmV T' s n := by
  induction n with
  | zero => rfl
  | succ n ih => rw [nmV_s, nmV_s, ih (fun j hj => h j (by omega)), h n (by omega)]
theorem tN_c (h : ∀ j, j < L → bR (T j) (T' j)) {c : Nat} (hc : c ≤ L) (hk : tK T' L c = 5) : tN T L c = tN T' L c := by
  have hE := tE_le (T := T') hc
  by_cases l : tS T' L c < L
  · by_cases q : 97 ≤ (T' (tS T' L c)).toInt ∧ (T' (tS T' L c)).toInt ≤ 122
    · obtain ⟨e1, k1⟩ := tok_let rfl l q rfl
      have r := wdK_rng T' (tS T' L c) (runTo leB T' L (tS T' L c)) 5 (by omega)
      split at k1 <;> omega
    · by_cases q2 : 48 ≤ (T' (tS T' L c)).toInt ∧ (T' (tS T' L c)).toInt ≤ 57
      · obtain ⟨e1, k1, -⟩ := tok_fig rfl l q2 rfl
        unfold tN
        rw [tE_c h c, tS_c h c]
        refine nmV_c _ (fun j hj => ?_)
        have f := run_fig (T := T') (L := L) (s := tS T' L c) (tS T' L c + j) (by omega) (by rw [← e1]; omega)
        have b := h (tS T' L c + j) (by omega)
        unfold bR at b
        omega
      · obtain ⟨e1, k1⟩ := tok_sgn rfl l q q2
        (repeat' split at k1) <;> omega
  · have k1 := (tok_end rfl l).2
    omega
theorem ac_c (h : ∀ j, j < L → bR (T j) (T' j)) {c : Nat} (hc : c ≤ L) : acR T L c = acR T' L c ∧ acP T L c = acP T' L c ∧ (acR T' L c = 0 → acD T L c = acD T' L c) := by
  have e1 := (tE_le (T := T') hc).2.1
  have k1 := tK_c h hc
  have k2 := tK_c h e1
  have s1 := tE_c h c
  have s2 := tE_c h (tE T' L c)
  refine ⟨?_, ?_, fun z => ?_⟩
  · unfold acR
    rw [s1, k1, k2]
  · unfold acP
    rw [s1, k1, k2, s2]
  · unfold acD
    unfold acR at z
    rw [k1, s1]
    by_cases q : tK T' L c = 7
    · rw [if_pos q, if_pos q]
      refine tN_c h e1 ?_
      apply Decidable.byContradiction
      intro q2
      rw [if_pos ⟨q, q2⟩] at z
      omega
    · rw [if_neg q, if_neg q]
theorem pa_c (h : ∀ j, j < L → bR (T j) (T' j)) {c : Nat} (hc : c ≤ L) : paR T L c = paR T' L c ∧ paP T L c = paP T' L c := by
  have e1 := (tE_le (T := T') hc).2.1
  have k1 := tK_c h hc
  have k2 := tK_c h e1
  have s1 := tE_c h c
  have s2 := tE_c h (tE T' L c)
  by_cases q : tK T' L c = 5
  · have n1 := tN_c h hc q
    constructor
    · unfold paR
      rw [k1, s1, k2, n1]
    · unfold paP
      rw [k1, s1, k2, n1, s2]
  · constructor
    · unfold paR
      rw [k1, if_pos q, if_pos q]
    · unfold paP
      rw [k1, if_pos q, if_pos q]
theorem ln_c (h : ∀ j, j < L → bR (T j) (T' j)) {c : Nat} (hc : c ≤ L) : lnR T L c = lnR T' L c ∧ lnX T L c = lnX T' L c ∧ lnN T L c = lnN T' L c ∧ (lnR T' L c = 0 → lnD T L c = lnD T' L c ∧ lnP T L c = lnP T' L c) := by
  have e1 := (tE_le (T := T') hc).2.1
  have a1 := ac_c h e1
  have p1 := acP_le (T := T') e1
  have k1 := tK_c h hc
  have k2 := tK_c h p1
  have e2 := (tE_le (T := T') p1).2.1
  have b1 := pa_c h e2
  have s0 := tE_c h c
  have s1 := tE_c h (acP T' L (tE T' L c))
  refine ⟨?_, ?_, ?_, fun z => ⟨?_, ?_⟩⟩
  · unfold lnR
    rw [k1, s0, a1.1, a1.2.1, k2, s1, b1.1]
  · unfold lnX
    rw [k1, s0, a1.1, a1.2.1, k2, s1, b1.2, tS_c h, tS_c h, tS_c h]
  · unfold lnN
    rw [s0, a1.2.1, s1, b1.2]
  · unfold lnD
    rw [s0]
    refine a1.2.2 ?_
    unfold lnR at z
    have q := acR_01 T' L (tE T' L c)
    rcases q with q | q
    · exact q
    · rw [if_pos q] at z
      split at z <;> omega
  · unfold lnP
    rw [s0, a1.2.1, s1]
    refine tN_c h e2 ?_
    unfold lnR at z
    split at z
    · omega
    · split at z
      · omega
      · split at z
        · omega
        · unfold paR at z
          split at z
          · omega
          · rename_i q
            omega
theorem poL_c (h : ∀ j, j < L → bR (T j) (T' j)) (n : Nat) : poL T L n = poL T' L n := by
  induction n with
  | zero => rfl
  | succ n ih => rw [poL_s, poL_s, ih, (ln_c h (poL_le T' L n)).2.2.1]
end READ
/-- the lines of both -/
def liR (dl : Int32) (dw dd dp mli : Nat → Int32) : Prop := ∀ j : Nat, (j : Int) < dl.toInt → dw j = mli (3 * j) ∧ dd j = mli (3 * j + 1) ∧ dp j = mli (3 * j + 2)
theorem tpR_feed {ln n ln' : Int32} {w : Int64} {tp mtp tp' mtp' : Nat → Int32} (h : tpR ln tp mtp) (h0 : 0 ≤ ln.toInt) (h1 : ln.toInt ≤ 300) (x : fdP (cbV w) ln n tp tp') (m : fdP (mbV w) ln n mtp mtp') (e : ln' = sq_feed ln n) : tpR ln' tp' mtp' := by
  unfold sq_feed at e
  by_cases c : 1 ≤ n.toInt ∧ n.toInt ≤ 8 ∧ ln.toInt + n.toInt ≤ 300
  · rw [if_pos ⟨c.1, c.2.1⟩, if_neg (by omega)] at e
    have x1 := x.1 c.1 c.2.1 c.2.2
    have m1 := m.1 c.1 c.2.1 c.2.2
    have t : ln'.toInt = ln.toInt + n.toInt := by rw [e]; exact i_add (by omega) (by omega)
    intro j hj
    by_cases l : (j : Int) < ln.toInt
    · rw [x1.1 j l, m1.1 j l]; exact h j l
    · obtain ⟨k, hk⟩ : ∃ k : Int32, k.toInt = 8 * (ln.toInt + n.toInt - 1 - (j : Int)) := ⟨Int32.ofInt (8 * (ln.toInt + n.toInt - 1 - (j : Int))), by rw [Int32.toInt_ofInt]; exact i_bmod (by omega) (by omega)⟩
      rw [x1.2 j k (by omega) (by omega) hk, m1.2 j k (by omega) (by omega) hk]
      exact bR_cm (by omega) (by omega)
  · rw [x.2 c, m.2 c]
    have t : ln' = ln := by
      rw [e]
      split
      · rw [if_pos (by omega)]
      · rfl
    rw [t]; exact h
theorem tpR_0 {tp mtp : Nat → Int32} : tpR 0 tp mtp := fun j hj => absurd hj (by show ¬ (j : Int) < (0 : Int32).toInt; have k0 : (0 : Int32).toInt = 0 := rfl; omega)
theorem du_stop {T : Nat → Int32} {L n m : Nat} (hm : duOk T L m) (hm12 : m ≤ 12) (hs : tK T L (poL T L n) = 8 ∨ ¬ dcF T L n = 0) : m ≤ n := by
  apply Decidable.byContradiction
  intro hlt
  have a := hm n (by omega)
  rcases hs with hs | hs
  · exact a.1 hs
  · unfold dcF at hs
    rw [if_pos (by omega)] at hs
    exact hs a.2
theorem du_eq {ln r r' lfa dl lfa' dl' mlt mln mlt' mln' : Int32} {tp mtp dw dd dp dw' dd' dp' mli mli' : Nat → Int32} (h0 : 0 ≤ ln.toInt) (ht : tpR ln tp mtp) (x : duP tp ln.toNatClampNeg r lfa dl lfa' dl' dw dd dp dw' dd' dp') (m : mdP mtp ln.toNatClampNeg r' mlt mln mlt' mln' mli mli') (e1 : mlt = lfa) (e2 : mln = dl) (hl : liR dl dw dd dp mli) : r = r' ∧ mlt' = lfa' ∧ mln' = dl' ∧ liR dl' dw' dd' dp' mli' := by
  have cl := i_cl h0
  have h : ∀ j, j < ln.toNatClampNeg → bR (tp j) (mtp j) := fun j hj => ht j (by omega)
  obtain ⟨n, n1, n2, n3⟩ := x
  obtain ⟨m0, m1, m2, m3⟩ := m
  have pc := poL_c h
  have kc : ∀ n, tK tp ln.toNatClampNeg (poL tp ln.toNatClampNeg n) = tK mtp ln.toNatClampNeg (poL mtp ln.toNatClampNeg n) := fun n => by rw [pc n]; exact tK_c h (poL_le _ _ n)
  have lc : ∀ n, lnR tp ln.toNatClampNeg (poL tp ln.toNatClampNeg n) = lnR mtp ln.toNatClampNeg (poL mtp ln.toNatClampNeg n) := fun n => by rw [pc n]; exact (ln_c h (poL_le _ _ n)).1
  have dc : ∀ n, dcF tp ln.toNatClampNeg n = dcF mtp ln.toNatClampNeg n := fun n => by unfold dcF; rw [lc n, kc n]
  have dp9 : ∀ n, dpF tp ln.toNatClampNeg n = dpF mtp ln.toNatClampNeg n := fun n => by unfold dpF; rw [pc n, (ln_c h (poL_le _ _ n)).2.1, tS_c h]
  have ok : duOk mtp ln.toNatClampNeg n := fun j hj => by
    have a := n2 j hj
    rw [kc j, lc j] at a
    exact a
  have hn : n = m0 := by
    have a1 : m0 ≤ n := du_stop m2 m1 (by
      rcases n3 with n3 | n3
      · exact Or.inl (by rw [← kc n]; exact n3.1)
      · exact Or.inr (by rw [← dc n]; exact n3.2.1))
    have a2 : n ≤ m0 := du_stop ok n1 (by
      rcases m3 with m3 | m3
      · exact Or.inl m3.1
      · exact Or.inr m3.2.1)
    omega
  subst hn
  rcases n3 with ⟨x1, x2, x3, x4, x5⟩ | ⟨x1, x2, x3, x4, x5, x6, x7, x8⟩
  · rcases m3 with ⟨y1, y2, y3, y4, y5⟩ | ⟨y1, -⟩
    · refine ⟨i_of (by omega), by rw [y3, x3, e1], i_of (by omega), fun j hj => ?_⟩
      have hj9 : j < n := by omega
      have a := x5 j hj9
      have b := y5 j hj9
      have o := n2 j hj9
      have q := (ln_c h (poL_le mtp ln.toNatClampNeg j)).2.2.2 (by rw [← lc j]; exact o.2)
      rw [kc j, pc j, q.1, q.2] at a
      exact ⟨i_of (by omega), i_of (by omega), i_of (by omega)⟩
    · rw [kc n] at x1
      exact absurd x1 y1
  · rcases m3 with ⟨y1, -⟩ | ⟨y1, y2, y3, y4, y5, y6⟩
    · rw [kc n] at x1
      exact absurd y1 x1
    · rw [dc n] at x3
      rw [dp9 n] at x4
      refine ⟨i_of (by omega), i_of (by omega), by rw [y5, x5, e2], ?_⟩
      rw [x5, x6, x7, x8, y6]
      exact hl
/-! ===== duties of both ===== -/
theorem lf_wk {dw dd dp mli : Nat → Int32} {a d dl : Int32} (hl : liR dl dw dd dp mli) (n : Nat) : ∀ k : Nat, ((n + k : Nat) : Int) ≤ dl.toInt → n + k ≤ 12 → ((lfV dw dd a d n k).toInt = -1 ∧ (wkF mli a d n k).toInt = -1000000) ∨ (lfV dw dd a d n k = wkF mli a d n k ∧ 0 ≤ (lfV dw dd a d n k).toInt ∧ (lfV dw dd a d n k).toInt < (n + k : Nat)) := by
  induction n with
  | zero => exact fun k _ _ => Or.inl ⟨rfl, rfl⟩
  | succ n ih =>
    intro k h1 h2
    have l := hl k (by omega)
    have c := nI_toInt (n := k) (by omega)
    rw [lfV_s, show wkF mli a d (n + 1) k = if (mli (3 * k)).toInt = a.toInt ∧ (mli (3 * k + 1)).toInt < d.toInt then nI k else wkF mli a d n (k + 1) from rfl, l.1, l.2.1]
    by_cases q : (mli (3 * k)).toInt = a.toInt ∧ (mli (3 * k + 1)).toInt < d.toInt
    · rw [if_pos q, if_pos q]
      exact Or.inr ⟨rfl, by omega, by omega⟩
    · rw [if_neg q, if_neg q]
      have r := ih (k + 1) (by omega) (by omega)
      rw [show n + (k + 1) = n + 1 + k by omega] at r
      exact r
theorem fw_bw {ak ay g g' : Nat → Int32} {k : Int32} (N : Nat) (hN : N ≤ 60) (hg : ∀ n, n < N → ((g n).toInt = -1 ∧ (g' n).toInt = -1000000) ∨ (g n = g' n ∧ 0 ≤ (g n).toInt)) : ((fwV ak ay g k N).toInt = -1 ∧ (bwV ak ay g' k N).toInt = -1000000) ∨ (fwV ak ay g k N = bwV ak ay g' k N ∧ 0 ≤ (fwV ak ay g k N).toInt ∧ (fwV ak ay g k N).toInt < N ∧ 0 ≤ (g (fwV ak ay g k N).toNatClampNeg).toInt) := by
  induction N with
  | zero => exact Or.inl ⟨rfl, rfl⟩
  | succ N ih =>
    have ih := ih (by omega) (fun n hn => hg n (by omega))
    have h9 := hg N (by omega)
    have c := nI_clamp (n := N) (by omega)
    have c2 := nI_toInt (n := N) (by omega)
    rw [fwV_s, bwV_s]
    by_cases q : (ak N).toInt = k.toInt ∧ 0 ≤ (g N).toInt
    · have q2 : ¬ (g' N).toInt = -1000000 := by
        rcases h9 with h9 | h9
        · omega
        · rw [← h9.1]; omega
      rcases ih with ⟨a1, a2⟩ | ⟨a1, a2, a3, a4⟩
      · rw [if_pos ⟨q.1, q.2, Or.inl (by omega)⟩, if_pos ⟨q.1, q2, Or.inl a2⟩]
        exact Or.inr ⟨rfl, by omega, by omega, by rw [c]; exact q.2⟩
      · rw [← a1]
        by_cases z : (ay N).toInt < (ay (fwV ak ay g k N).toNatClampNeg).toInt
        · rw [if_pos ⟨q.1, q.2, Or.inr z⟩, if_pos ⟨q.1, q2, Or.inr z⟩]
          exact Or.inr ⟨rfl, by omega, by omega, by rw [c]; exact q.2⟩
        · rw [if_neg (fun y => by rcases y.2.2 with y | y <;> omega), if_neg (fun y => by rcases y.2.2 with y | y <;> omega)]
          exact Or.inr ⟨rfl, a2, by omega, a4⟩
    · have q2 : ¬ ((ak N).toInt = k.toInt ∧ ¬ (g' N).toInt = -1000000) := by
        intro z
        rcases h9 with h9 | h9
        · exact z.2 h9.2
        · exact q ⟨z.1, h9.2⟩
      rw [if_neg (fun y => q ⟨y.1, y.2.1⟩), if_neg (fun y => q2 ⟨y.1, y.2.1⟩)]
      rcases ih with a | ⟨a1, a2, a3, a4⟩
      · exact Or.inl a
      · exact Or.inr ⟨a1, a2, by omega, a4⟩
theorem duty_eq {cn an dl k w : Int32} {wo dw dd dp ak ah ay az mli : Nat → Int32} (d0 : 0 ≤ dl.toInt) (d1 : dl.toInt ≤ 12) (a0 : 0 ≤ an.toInt) (a1 : an.toInt ≤ 60) (hl : liR dl dw dd dp mli) : sp_duty cn an dl wo dw dd dp ak ah ay az k w = sm_duty cn an dl wo mli ak ah ay az k w := by
  have cd := i_cl d0
  have ca := i_cl a0
  have hg : ∀ n, ((liF dw dd ah az dl.toNatClampNeg n).toInt = -1 ∧ (wmF mli ah az dl.toNatClampNeg n).toInt = -1000000) ∨ (liF dw dd ah az dl.toNatClampNeg n = wmF mli ah az dl.toNatClampNeg n ∧ 0 ≤ (liF dw dd ah az dl.toNatClampNeg n).toInt ∧ (liF dw dd ah az dl.toNatClampNeg n).toInt < dl.toNatClampNeg) := fun n => lf_wk hl dl.toNatClampNeg 0 (by omega) (by omega)
  have hf := fw_bw (ak := ak) (ay := ay) (k := k) an.toNatClampNeg (by omega) (fun n _ => by
    rcases hg n with q | q
    · exact Or.inl q
    · exact Or.inr ⟨q.1, q.2.1⟩)
  unfold sp_duty sm_duty
  split
  · rename_i g
    unfold dyF dzF
    rcases hf with ⟨f1, f2⟩ | ⟨f1, f2, f3, f4⟩
    · rw [if_pos (Or.inl (by omega)), if_pos f2]
    · rw [← f1]
      have g9 := hg (fwV ak ay (liF dw dd ah az dl.toNatClampNeg) k an.toNatClampNeg).toNatClampNeg
      rcases g9 with g9 | ⟨g1, g2, g3⟩
      · omega
      · have z1 : ¬ ((fwV ak ay (liF dw dd ah az dl.toNatClampNeg) k an.toNatClampNeg).toInt < 0 ∨ (liF dw dd ah az dl.toNatClampNeg (fwV ak ay (liF dw dd ah az dl.toNatClampNeg) k an.toNatClampNeg).toNatClampNeg).toInt < 0) := by omega
        have z2 : ¬ (fwV ak ay (liF dw dd ah az dl.toNatClampNeg) k an.toNatClampNeg).toInt = -1000000 := by omega
        rw [if_neg z1, if_neg z2, ← g1]
        have cg := i_cl g2
        have l := hl (liF dw dd ah az dl.toNatClampNeg (fwV ak ay (liF dw dd ah az dl.toNatClampNeg) k an.toNatClampNeg).toNatClampNeg).toNatClampNeg (by omega)
        by_cases w0 : w.toInt = 0
        · rw [if_pos w0, if_neg (show ¬ w.toInt = 1 by omega), if_neg (show ¬ w.toInt = 2 by omega), l.2.2]
        · rw [if_neg w0]
          by_cases w1 : w.toInt = 1
          · rw [if_pos w1, if_pos w1]
          · rw [if_neg w1, if_neg w1, if_pos (show w.toInt = 2 by omega)]
  · rfl
theorem count_eq {ml mm mi sl ss : Nat → Int32} {rs : Nat → Nat → Int32} (h : shR ml mm mi sl ss rs) (hm : okM mm) : hwV ss 8 = mwV ml 8 := by
  have key : ∀ n, n ≤ 8 → hwV ss n = mwV ml n := by
    intro n
    induction n with
    | zero => exact fun _ => rfl
    | succ n ih =>
      intro hn
      have a := (h n (by omega)).1
      have b := hm n (by omega)
      rw [hwV_s, mwV_s, ih (by omega)]
      rcases a with ⟨a1, a2⟩ | ⟨a1, a2, -⟩
      · rw [if_pos a2, if_neg (by omega)]
      · rw [if_neg (by rw [a2]; omega), if_pos a1]
  exact key 8 (Nat.le_refl _)
