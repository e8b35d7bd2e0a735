
/-! ===== shares, rings, kinds, asks: both sides ===== -/
theorem pm_pp {hn d : Int32} {ho hc hp hs : Nat → Int32} (h1 : 0 ≤ hn.toInt) (h2 : hn.toInt ≤ 40) (hD : okD hn hs) (hN : okN hn ho hc) (hV : okV hn hp) : ∀ o c, o < 20 → c < 10 → ppF ho hc hp hs d hn.toNatClampNeg o c = pmF ho hc hp hs d hn.toNatClampNeg o c := by
  have ch := i_cl h1
  intro o c ho9 hc9
  unfold ppF pmF
  by_cases e : o = c + 10
  · rw [if_pos e]
    have b := pc_bd (ho := ho) (hc := hc) (hp := hp) (hs := hs) (d := d) (o := nI o) (c := nI (c + 10)) hn.toNatClampNeg (fun j hj => hV j (by omega))
    apply Decidable.byContradiction
    intro hne
    obtain ⟨k, k1, k2, k3⟩ := pc_pos (ho := ho) (hc := hc) (hp := hp) (hs := hs) (d := d) (o := nI o) (c := nI (c + 10)) hn.toNatClampNeg (by omega)
    rw [nI_toInt (by omega)] at k2 k3
    exact hN k (by omega) (by omega)
  · rw [if_neg e, pm_pc _ (by omega) (fun j hj => hD j (by omega))]
theorem share_eq {hn q o d : Int32} {ho hc hp hs : Nat → Int32} (h1 : 0 ≤ hn.toInt) (h2 : hn.toInt ≤ 40) (hD : okD hn hs) (hN : okN hn ho hc) (hV : okV hn hp) : sp_share hn ho hc hp hs q o d = sm_share hn ho hc hp hs q o d := by
  unfold sp_share sm_share
  split
  · rename_i g
    have cq := i_cl (x := q) (by omega)
    exact shF_c (pm_pp h1 h2 hD hN hV) (by omega) _
  · rfl
theorem trV_c {p p' : Nat → Nat → Int} (hp : ∀ o c, o < 20 → c < 10 → p o c = p' o c) (o n : Nat) (hn : n ≤ 20) : trV p o n = trV p' o n := by
  induction n with
  | zero => rfl
  | succ n ih => rw [trV_s, trV_s, ih (by omega), shF_c hp (by omega) o]
theorem truly_eq {hn o d : Int32} {ho hc hp hs : Nat → Int32} (h1 : 0 ≤ hn.toInt) (h2 : hn.toInt ≤ 40) (hD : okD hn hs) (hN : okN hn ho hc) (hV : okV hn hp) : sp_truly hn ho hc hp hs o d = sm_truly hn ho hc hp hs o d := by
  unfold sp_truly sm_truly
  rw [trV_c (pm_pp h1 h2 hD hN hV) o.toNatClampNeg 10 (by omega)]
theorem mt_up {E : Nat → Nat → Bool} {c i b : Nat} (h : mtV E c i b = true) : mtV E c (i + 1) b = true := by
  rw [mtV_s, h]
  rfl
theorem mt_wr {E : Nat → Nat → Bool} {c : Nat} (hc : c < 10) (i : Nat) : ∀ b, mtV E c i b = true → wrV E 10 c b = true := by
  induction i with
  | zero => exact fun b h => absurd h (by show ¬ (false = true); decide)
  | succ i ih =>
    intro b h
    rw [mtV_s, Bool.or_eq_true, anyP_iff] at h
    rcases h with h | ⟨a, ha, h⟩
    · exact ih b h
    · rw [Bool.and_eq_true, Bool.or_eq_true, decide_eq_true_iff] at h
      have h2 := wr_le 10 a b h.2
      rcases h.1 with h1 | h1
      · exact wr_trans 10 c a b ha (ih a h1) h2
      · rw [h1] at h2; exact h2
theorem anyP_c {P Q : Nat → Bool} (n : Nat) (h : ∀ a, a < n → P a = Q a) : anyP P n = anyP Q n := by
  induction n with
  | zero => rfl
  | succ n ih => rw [anyP_s, anyP_s, ih (fun a ha => h a (by omega)), h n (by omega)]
theorem mt_stab {E : Nat → Nat → Bool} {c j : Nat} (h : ∀ b, b < 10 → mtV E c (j + 1) b = mtV E c j b) (k : Nat) : ∀ b, b < 10 → mtV E c (j + k + 1) b = mtV E c (j + k) b := by
  induction k with
  | zero => exact h
  | succ k ih =>
    intro b hb
    rw [show j + (k + 1) = (j + k) + 1 by omega, mtV_s E c (j + k + 1) b]
    rw [anyP_c (Q := fun a => (mtV E c (j + k) a || decide (a = c)) && E a b) 10 (fun a ha => by rw [ih a ha])]
    rw [mtV_s E c (j + k) b]
    cases mtV E c (j + k) b <;> cases anyP (fun a => (mtV E c (j + k) a || decide (a = c)) && E a b) 10 <;> rfl
theorem mt_or (E : Nat → Nat → Bool) (c i : Nat) : (∃ j, j < i ∧ ∀ b, b < 10 → mtV E c (j + 1) b = mtV E c j b) ∨ i ≤ cntP (fun b => mtV E c i b) 10 := by
  induction i with
  | zero => exact Or.inr (Nat.zero_le _)
  | succ i ih =>
    rcases ih with ⟨j, h1, h2⟩ | ih
    · exact Or.inl ⟨j, by omega, h2⟩
    · by_cases q : ∀ b, b < 10 → mtV E c (i + 1) b = mtV E c i b
      · exact Or.inl ⟨i, by omega, q⟩
      · right
        have q2 : ∃ b, b < 10 ∧ mtV E c (i + 1) b ≠ mtV E c i b := by
          apply Classical.byContradiction
          intro h
          exact q (fun b hb => Classical.byContradiction (fun h9 => h ⟨b, hb, h9⟩))
        obtain ⟨b, hb, hne⟩ := q2
        have h0 : mtV E c i b = false := by
          cases h9 : mtV E c i b with
          | false => rfl
          | true => rw [h9, mt_up h9] at hne; exact absurd rfl hne
        have h1 : mtV E c (i + 1) b = true := by
          cases h9 : mtV E c (i + 1) b with
          | true => rfl
          | false => rw [h9, h0] at hne; exact absurd rfl hne
        have h3 := cntP_lt (P := fun b => mtV E c i b) (Q := fun b => mtV E c (i + 1) b) (c := b) h1 h0 10 hb (fun x _ hx => mt_up hx)
        omega
theorem mt_all (E : Nat → Nat → Bool) (c : Nat) : ∀ b, b < 10 → mtV E c 12 b = mtV E c 11 b := by
  rcases mt_or E c 11 with ⟨j, h1, h2⟩ | h
  · have h3 := mt_stab h2 (11 - j)
    rw [show j + (11 - j) = 11 by omega] at h3
    exact h3
  · have h4 := cntP_bd (fun b => mtV E c 11 b) 10
    omega
theorem mt_eq {E : Nat → Nat → Bool} (hE : ∀ x y, E x y = true → y < 10) {c d : Nat} (hc : c < 10) (hd : d < 10) : mtV E c 11 d = wrV E 10 c d := by
  apply Bool.eq_iff_iff.mpr
  constructor
  · exact mt_wr hc 11 d
  · intro h
    have h9 := wr_least (B := E) (Q := fun x y => x < 10 → (x = c ∨ mtV E c 11 x = true) → y < 10 ∧ mtV E c 11 y = true) (fun x y hxy hx h1 => by
      have hy := hE x y hxy
      refine ⟨hy, ?_⟩
      rw [← mt_all E c y hy, mtV_s, Bool.or_eq_true, anyP_iff]
      refine Or.inr ⟨x, hx, ?_⟩
      rw [Bool.and_eq_true, Bool.or_eq_true, decide_eq_true_iff]
      exact ⟨h1.symm, hxy⟩) (fun x j y h1 h2 hx h3 => by
      have h4 := h1 hx h3
      exact h2 h4.1 (Or.inr h4.2)) 10 c d h
    exact (h9 hc (Or.inl rfl)).2
theorem rings_eq {hn d r r' : Int32} {ho hc hp hs : Nat → Int32} (h1 : 0 ≤ hn.toInt) (h2 : hn.toInt ≤ 40) (hD : okD hn hs) (hN : okN hn ho hc) (hV : okV hn hp) (x : sp_rings hn ho hc hp hs d r) (m : sm_rings hn ho hc hp hs d r') : r = r' := by
  unfold sp_rings at x
  unfold sm_rings at m
  split at x
  · rename_i g
    rw [if_pos g] at m
    apply b_ext
    intro i hi
    rw [x i hi, m i hi]
    by_cases l : i < 10
    · rw [mt_eq ppB_10 l l]
      congr 1
      refine wr_c (fun c9 d9 a1 a2 => ?_) 10 (Nat.le_refl _) i i l hi
      unfold ppB
      refine decide_eq_decide.mpr ⟨fun z => ⟨z.1, ?_⟩, fun z => ⟨z.1, ?_⟩⟩
      · rw [← pm_pp h1 h2 hD hN hV _ _ (by omega) z.1]; exact z.2
      · rw [pm_pp h1 h2 hD hN hV _ _ (by omega) z.1]; exact z.2
    · rw [decide_eq_false l]; rfl
  · rename_i g
    rw [if_neg g] at m
    exact i_of (by omega)
theorem brV_c {p p' : Nat → Nat → Int} (hp : ∀ o c, o < 20 → c < 10 → p o c = p' o c) (set : Int32) (o n : Nat) (hn : n ≤ 20) : brV p set o n = brV p' set o n := by
  induction n with
  | zero => rfl
  | succ n ih => rw [brV_s, brV_s, ih (by omega), shF_c hp (by omega) o]
theorem barred_eq {cn pn hn lc k d : Int32} {fo pk pf po pd pe pr ho hc hp hs lp la lb : Nat → Int32} (h1 : 0 ≤ hn.toInt) (h2 : hn.toInt ≤ 40) (hD : okD hn hs) (hN : okN hn ho hc) (hV : okV hn hp) (p0 : 0 ≤ pn.toInt) (p1 : pn.toInt ≤ 40) (hO : okO pn pr) (hW : okW pn pr pd pe) : sp_barred cn pn hn lc fo pk pf po pd pe pr ho hc hp hs lp la lb k d = sm_barred cn pn hn lc fo pk pf po pd pe ho hc hp hs lp la lb k d := by
  unfold sp_barred sm_barred
  rw [oo_all (fo := fo) p0 p1 hO hW, brV_c (pm_pp h1 h2 hD hN hV) _ _ 10 (by omega)]
theorem kd_eq {pn hn lc gn td k : Int32} {fo wo pk pf po pd pe pr ho hc hp hs lp la lb gk gs ge : Nat → Int32} (h1 : 0 ≤ hn.toInt) (h2 : hn.toInt ≤ 40) (hD : okD hn hs) (hN : okN hn ho hc) (hV : okV hn hp) (p0 : 0 ≤ pn.toInt) (p1 : pn.toInt ≤ 40) (hO : okO pn pr) (hW : okW pn pr pd pe) : kd_day pn hn lc gn td fo wo pk pf po pd pe pr ho hc hp hs lp la lb gk gs ge k = km_day pn hn lc gn td fo wo pk pf po pd pe ho hc hp hs lp la lb gk gs ge k := by
  unfold kd_day km_day
  rw [oo_all (fo := fo) p0 p1 hO hW, brV_c (pm_pp h1 h2 hD hN hV) _ _ 10 (by omega)]
theorem kind_eq {cn pn hn lc gn td k : Int32} {fo wo pk pf po pd pe pr ho hc hp hs lp la lb gk gs ge : Nat → Int32} (h1 : 0 ≤ hn.toInt) (h2 : hn.toInt ≤ 40) (hD : okD hn hs) (hN : okN hn ho hc) (hV : okV hn hp) (p0 : 0 ≤ pn.toInt) (p1 : pn.toInt ≤ 40) (hO : okO pn pr) (hW : okW pn pr pd pe) : sp_kind cn pn hn lc gn td fo wo pk pf po pd pe pr ho hc hp hs lp la lb gk gs ge k = sm_kind cn pn hn lc gn td fo wo pk pf po pd pe ho hc hp hs lp la lb gk gs ge k := by
  unfold sp_kind sm_kind
  rw [kd_eq h1 h2 hD hN hV p0 p1 hO hW]
theorem as_eq {lf lf' mst' r r' cn pn hn lc gn td k w : Int32} {fo wo pk pf po pd pe pr ho hc hp hs lp la lb gk gs ge : Nat → Int32} (h1 : 0 ≤ hn.toInt) (h2 : hn.toInt ≤ 40) (hD : okD hn hs) (hN : okN hn ho hc) (hV : okV hn hp) (p0 : 0 ≤ pn.toInt) (p1 : pn.toInt ≤ 40) (hO : okO pn pr) (hW : okW pn pr pd pe) (x : sp_as lf cn pn hn lc gn td fo wo pk pf po pd pe pr ho hc hp hs lp la lb gk gs ge k w r lf') (m : sm_as lf cn pn hn lc gn td fo wo pk pf po pd pe ho hc hp hs lp la lb gk gs ge k w r' mst') : r = r' ∧ mst' = lf' := by
  unfold sp_as at x
  unfold sm_as at m
  rw [kd_eq h1 h2 hD hN hV p0 p1 hO hW] at x
  split at x
  · rename_i g
    rw [if_pos g] at m
    rcases x with ⟨a1, a2, a3⟩ | ⟨a1, a2, a3⟩
    · rcases m with ⟨b1, b2, b3⟩ | ⟨b1, b2, b3⟩
      · exact ⟨a2.trans b2.symm, b3.trans a3.symm⟩
      · exact absurd a1 b1
    · rcases m with ⟨b1, b2, b3⟩ | ⟨b1, b2, b3⟩
      · exact absurd b1 a1
      · exact ⟨a2.trans b2.symm, b3.trans a3.symm⟩
  · rename_i g
    rw [if_neg g] at m
    exact ⟨x.1.trans m.1.symm, m.2.trans x.2.symm⟩
/-- the sums of the pledges -/
def okJ (gn : Int32) (gs : Nat → Int32) : Prop := ∀ j : Nat, (j : Int) < gn.toInt → 1 ≤ (gs j).toInt ∧ (gs j).toInt ≤ 100000
theorem suV_rng {gk gs ge : Nat → Int32} {k d gn : Int32} (hj : okJ gn gs) (n : Nat) (hn : (n : Int) ≤ gn.toInt) (h40 : n ≤ 40) : 0 ≤ (suV gk gs ge k d n).toInt ∧ (suV gk gs ge k d n).toInt ≤ 100000 * n := by
  induction n with
  | zero => exact ⟨by show (0 : Int) ≤ (0 : Int32).toInt; decide, by show (0 : Int32).toInt ≤ 100000 * ((0 : Nat) : Int); decide⟩
  | succ n ih =>
    have ih := ih (by omega) (by omega)
    have j := hj n (by omega)
    rw [suV_s]
    split
    · rw [i_add (by omega) (by omega)]
      omega
    · omega
theorem kdF_rng (br : Int) (owed worth : Int32) : (kdF br owed worth).toInt = 1 ∨ (kdF br owed worth).toInt = 2 ∨ (kdF br owed worth).toInt = 3 ∨ ((kdF br owed worth).toInt = 4 ∧ owed.toInt ≤ 0) := by
  unfold kdF
  split
  · exact Or.inr (Or.inr (Or.inl (by decide)))
  · split
    · exact Or.inr (Or.inl (by decide))
    · split
      · exact Or.inl (by decide)
      · exact Or.inr (Or.inr (Or.inr ⟨by decide, by omega⟩))
theorem cn_t {b : Bool} {s : Int32 × (Nat → Int32)} {a : Int32} (h : b = true) : cnL b s a = lvT s a := by unfold cnL; rw [if_pos h]
theorem cn_f {b : Bool} {s : Int32 × (Nat → Int32)} {a : Int32} (h : b = false) : cnL b s a = s := by unfold cnL; rw [if_neg (by rw [h]; decide)]
theorem mk_eq (kd wo ow : Int32) (s : Int32 × (Nat → Int32)) : mkF kd wo ow s = mkM kd wo ow s := by
  unfold mkF mkM
  by_cases c1 : kd.toInt = 1 ∨ kd.toInt = 2
  · rw [if_pos c1, if_pos c1, cn_t (decide_eq_true c1), cn_f (decide_eq_false (show ¬ kd.toInt = 3 by omega)), cn_f (decide_eq_false (show ¬ kd.toInt = 4 by omega)), cn_f (decide_eq_false (show ¬ kd.toInt = 4 by omega))]
  · rw [if_neg c1, if_neg c1, cn_f (decide_eq_false c1)]
    by_cases c3 : kd.toInt = 3
    · rw [if_pos c3, if_pos c3, cn_t (decide_eq_true c3), cn_f (decide_eq_false (show ¬ kd.toInt = 4 by omega)), cn_f (decide_eq_false (show ¬ kd.toInt = 4 by omega))]
    · rw [if_neg c3, if_neg c3, cn_f (decide_eq_false c3)]
      by_cases c4 : kd.toInt = 4
      · rw [if_pos c4, if_pos c4, cn_t (decide_eq_true c4), cn_t (decide_eq_true c4)]
      · rw [if_neg c4, if_neg c4, cn_f (decide_eq_false c4), cn_f (decide_eq_false c4), Int32.add_zero]
theorem sz_eq {kd wo su ow : Int32} {s : Int32 × (Nat → Int32)} (h : kd.toInt = 1 ∨ kd.toInt = 2 ∨ kd.toInt = 3 ∨ (kd.toInt = 4 ∧ su = 0)) : szF kd wo su ow s = szM kd wo su ow s := by
  unfold szF szM
  rcases h with h | h | h | ⟨h, hs⟩
  · rw [if_pos h, if_neg (by omega), if_neg (by omega), cn_t (decide_eq_true (Or.inl h)), cn_f (decide_eq_false (show ¬ kd.toInt = 2 by omega))]
  · rw [if_neg (by omega), if_pos h, if_neg (by omega), if_pos h, cn_t (decide_eq_true (Or.inr h)), cn_t (decide_eq_true h)]
  · rw [if_neg (by omega), if_neg (by omega), if_pos h, if_pos h, ← mk_eq]
    unfold mkF
    rw [if_neg (by omega), if_pos h]
  · rw [if_neg (by omega), if_neg (by omega), if_neg (by omega), if_neg (by omega), if_neg (by omega), cn_f (decide_eq_false (show ¬ (kd.toInt = 1 ∨ kd.toInt = 2) by omega)), cn_f (decide_eq_false (show ¬ kd.toInt = 2 by omega)), hs, Int32.sub_zero]
theorem ask_eq {tn cn pn hn lc gn td k w : Int32} {tr fo wo pk pf po pd pe pr ho hc hp hs lp la lb gk gs ge : Nat → Int32} (h1 : 0 ≤ hn.toInt) (h2 : hn.toInt ≤ 40) (hD : okD hn hs) (hN : okN hn ho hc) (hV : okV hn hp) (p0 : 0 ≤ pn.toInt) (p1 : pn.toInt ≤ 40) (hO : okO pn pr) (hW : okW pn pr pd pe) (g0 : 0 ≤ gn.toInt) (g1 : gn.toInt ≤ 40) (hJ : okJ gn gs) : sp_ask tn tr cn pn hn lc gn td fo wo pk pf po pd pe pr ho hc hp hs lp la lb gk gs ge k w = sm_ask tn tr cn pn hn lc gn td fo wo pk pf po pd pe ho hc hp hs lp la lb gk gs ge k w := by
  unfold sp_ask sm_ask
  have cg := i_cl g0
  have e := kd_eq (fo := fo) (wo := wo) (pk := pk) (pf := pf) (po := po) (lp := lp) (la := la) (lb := lb) (gk := gk) (gs := gs) (ge := ge) (lc := lc) (gn := gn) (td := td) (k := k) h1 h2 hD hN hV p0 p1 hO hW
  have r := kdF_rng (brV (ppF ho hc hp hs td hn.toNatClampNeg) (poV lp la lb td lc.toNatClampNeg) (owV pk pf po pd pe pr k td td (fo k.toNatClampNeg) pn.toNatClampNeg).toNatClampNeg 10) (suV gk gs ge k td gn.toNatClampNeg) (wo k.toNatClampNeg)
  have s := suV_rng (gk := gk) (ge := ge) (k := k) (d := td) hJ gn.toNatClampNeg (by omega) (by omega)
  rw [oo_all (fo := fo) p0 p1 hO hW, ← e, mk_eq]
  split
  · split
    · refine sz_eq ?_
      show (kdF _ _ _).toInt = 1 ∨ (kdF _ _ _).toInt = 2 ∨ (kdF _ _ _).toInt = 3 ∨ ((kdF _ _ _).toInt = 4 ∧ _)
      rcases r with r | r | r | ⟨r, q⟩
      · exact Or.inl r
      · exact Or.inr (Or.inl r)
      · exact Or.inr (Or.inr (Or.inl r))
      · exact Or.inr (Or.inr (Or.inr ⟨r, i_of (by have k0 : (0 : Int32).toInt = 0 := rfl; omega)⟩))
    · rfl
  · rfl
theorem sp_crate_okF {cn cn' o w r : Int32} {fo wo fo' wo' : Nat → Int32} (e : (r, cn', fo', wo') = sp_crate cn fo wo o w) (h1 : 0 ≤ cn.toInt) (h2 : cn.toInt ≤ 12) (h3 : okF cn fo) : okF cn' fo' := by
  unfold sp_crate at e
  have ch := i_cl h1
  split at e
  · split at e
    · simp only [Prod.mk.injEq] at e
      obtain ⟨-, rfl, rfl, -⟩ := e
      exact h3
    · rename_i g1 g2
      have k1 : (1 : Int32).toInt = 1 := rfl
      have t1 : (cn + 1).toInt = cn.toInt + 1 := by rw [i_add (by omega) (by omega), k1]
      simp only [Prod.mk.injEq] at e
      obtain ⟨-, rfl, rfl, -⟩ := e
      intro j hj
      by_cases hk : j = cn.toNatClampNeg
      · subst hk; rw [upd_s]; omega
      · rw [upd_n _ _ hk]; exact h3 j (by omega)
  · simp only [Prod.mk.injEq] at e
    obtain ⟨-, rfl, rfl, -⟩ := e
    exact h3
theorem sp_paper_okG {pn pn' cn k x y a b r : Int32} {pk pf po pd pe pk' pf' po' pd' pe' : Nat → Int32} (e : (r, pn', pk', pf', po', pd', pe') = sp_paper pn pk pf po pd pe cn k x y a b) (h1 : 0 ≤ pn.toInt) (h2 : pn.toInt ≤ 40) (h3 : okG pn po) : okG pn' po' := by
  unfold sp_paper at e
  have ch := i_cl h1
  split at e
  · split at e
    · simp only [Prod.mk.injEq] at e
      obtain ⟨-, rfl, -, -, rfl, -, -⟩ := e
      exact h3
    · rename_i g1 g2
      have k1 : (1 : Int32).toInt = 1 := rfl
      have t1 : (pn + 1).toInt = pn.toInt + 1 := by rw [i_add (by omega) (by omega), k1]
      simp only [Prod.mk.injEq] at e
      obtain ⟨-, rfl, -, -, rfl, -, -⟩ := e
      intro j hj
      by_cases hk : j = pn.toNatClampNeg
      · subst hk; rw [upd_s]; omega
      · rw [upd_n _ _ hk]; exact h3 j (by omega)
  · simp only [Prod.mk.injEq] at e
    obtain ⟨-, rfl, -, -, rfl, -, -⟩ := e
    exact h3
theorem sp_pledge_okJ {gn gn' cn k x q a b r : Int32} {gk gs gd ge gk' gs' gd' ge' : Nat → Int32} (e : (r, gn', gk', gs', gd', ge') = sp_pledge gn gk gs gd ge cn k x q a b) (h1 : 0 ≤ gn.toInt) (h2 : gn.toInt ≤ 40) (h3 : okJ gn gs) : okJ gn' gs' := by
  unfold sp_pledge at e
  have ch := i_cl h1
  split at e
  · split at e
    · simp only [Prod.mk.injEq] at e
      obtain ⟨-, rfl, -, rfl, -, -⟩ := e
      exact h3
    · rename_i g1 g2
      have k1 : (1 : Int32).toInt = 1 := rfl
      have t1 : (gn + 1).toInt = gn.toInt + 1 := by rw [i_add (by omega) (by omega), k1]
      simp only [Prod.mk.injEq] at e
      obtain ⟨-, rfl, -, rfl, -, -⟩ := e
      intro j hj
      by_cases hk : j = gn.toNatClampNeg
      · subst hk; rw [upd_s]; omega
      · rw [upd_n _ _ hk]; exact h3 j (by omega)
  · simp only [Prod.mk.injEq] at e
    obtain ⟨-, rfl, -, rfl, -, -⟩ := e
    exact h3
