/-- bit b of a is set -/
abbrev hbP (a b : Int32) : Prop := ¬ (((a.toUInt32 >>> (b.toUInt32 &&& Int32.toUInt32 31)).toInt32 &&& 1) = 0)

def sp_day (td d : Int32) : Int32 × Int32 := if 0 ≤ d.toInt ∧ d.toInt < 10000 then (td, d) else (-1000001, td)

def sp_hold (hn : Int32) (ho hc hp hs : Nat → Int32) (o k q d : Int32) : Int32 × Int32 × (Nat → Int32) × (Nat → Int32) × (Nat → Int32) × (Nat → Int32) := if 0 ≤ o.toInt ∧ o.toInt < 20 ∧ 10 ≤ k.toInt ∧ k.toInt < 20 ∧ ¬ o.toInt = k.toInt ∧ 0 ≤ q.toInt ∧ q.toInt ≤ 100 ∧ 0 ≤ d.toInt ∧ d.toInt < 10000 then (if 40 ≤ hn.toInt then (-1000003, hn, ho, hc, hp, hs) else (hn + 1, hn + 1, upd ho hn.toNatClampNeg o, upd hc hn.toNatClampNeg k, upd hp hn.toNatClampNeg q, upd hs hn.toNatClampNeg d)) else (-1000001, hn, ho, hc, hp, hs)

def sp_crate (cn : Int32) (fo wo : Nat → Int32) (o w : Int32) : Int32 × Int32 × (Nat → Int32) × (Nat → Int32) := if 0 ≤ o.toInt ∧ o.toInt < 20 ∧ 1 ≤ w.toInt ∧ w.toInt ≤ 100000 then (if 12 ≤ cn.toInt then (-1000003, cn, fo, wo) else (cn + 1 - 1, cn + 1, upd fo cn.toNatClampNeg o, upd wo cn.toNatClampNeg w)) else (-1000001, cn, fo, wo)

def sp_pledge (gn : Int32) (gk gs gd ge : Nat → Int32) (cn k x q a b : Int32) : Int32 × Int32 × (Nat → Int32) × (Nat → Int32) × (Nat → Int32) × (Nat → Int32) := if 0 ≤ k.toInt ∧ k.toInt < cn.toInt ∧ 0 ≤ x.toInt ∧ x.toInt < 10 ∧ 1 ≤ q.toInt ∧ q.toInt ≤ 100000 ∧ 0 ≤ a.toInt ∧ b.toInt < 10000 ∧ a.toInt ≤ b.toInt then (if 40 ≤ gn.toInt then (-1000003, gn, gk, gs, gd, ge) else (gn + 1 - 1, gn + 1, upd gk gn.toNatClampNeg k, upd gs gn.toNatClampNeg q, upd gd gn.toNatClampNeg a, upd ge gn.toNatClampNeg b)) else (-1000001, gn, gk, gs, gd, ge)

def sp_act (an : Int32) (ak ah ay az : Nat → Int32) (cn k w d n : Int32) : Int32 × Int32 × (Nat → Int32) × (Nat → Int32) × (Nat → Int32) × (Nat → Int32) := if 0 ≤ k.toInt ∧ k.toInt < cn.toInt ∧ 0 ≤ w.toInt ∧ w.toInt < 4 ∧ 0 ≤ d.toInt ∧ d.toInt < 10000 ∧ 0 ≤ n.toInt ∧ n.toInt ≤ 999 then (if 60 ≤ an.toInt then (-1000003, an, ak, ah, ay, az) else (an + 1, an + 1, upd ak an.toNatClampNeg k, upd ah an.toNatClampNeg w, upd ay an.toNatClampNeg d, upd az an.toNatClampNeg n)) else (-1000001, an, ak, ah, ay, az)

def sp_opened (un : Int32) (uk uy uw um : Nat → Int32) (cn k d w q : Int32) : Int32 × Int32 × (Nat → Int32) × (Nat → Int32) × (Nat → Int32) × (Nat → Int32) := if 0 ≤ k.toInt ∧ k.toInt < cn.toInt ∧ 0 ≤ d.toInt ∧ d.toInt < 10000 ∧ 1 ≤ w.toInt ∧ w.toInt ≤ 100000 ∧ 0 ≤ q.toInt ∧ q.toInt ≤ 255 then (if 60 ≤ un.toInt then (-1000003, un, uk, uy, uw, um) else (un + 1, un + 1, upd uk un.toNatClampNeg k, upd uy un.toNatClampNeg d, upd uw un.toNatClampNeg w, upd um un.toNatClampNeg q)) else (-1000001, un, uk, uy, uw, um)

def sp_list (lc : Int32) (lp la lb : Nat → Int32) (q a b : Int32) : Int32 × Int32 × (Nat → Int32) × (Nat → Int32) × (Nat → Int32) := if 0 ≤ q.toInt ∧ q.toInt < 10 ∧ 0 ≤ a.toInt ∧ b.toInt < 10000 ∧ a.toInt ≤ b.toInt then (if 20 ≤ lc.toInt then (-1000003, lc, lp, la, lb) else (lc + 1, lc + 1, upd lp lc.toNatClampNeg q, upd la lc.toNatClampNeg a, upd lb lc.toNatClampNeg b)) else (-1000001, lc, lp, la, lb)


/-- the papers' order names papers -/
def okO (pn : Int32) (pr : Nat → Int32) : Prop := ∀ j : Nat, (j : Int) < pn.toInt → 0 ≤ (pr j).toInt ∧ (pr j).toInt < pn.toInt
/-- .. but for the place at -/
def okP (pn a : Int32) (pr : Nat → Int32) : Prop := ∀ j : Nat, (j : Int) ≤ pn.toInt → ¬ (j : Int) = a.toInt → 0 ≤ (pr j).toInt ∧ (pr j).toInt < pn.toInt
theorem okO_at {pn : Int32} {pr : Nat → Int32} (h : okO pn pr) {v i : Int32} (e : v = pr i.toNatClampNeg) (h0 : 0 ≤ i.toInt) (h1 : i.toInt < pn.toInt) : 0 ≤ v.toInt ∧ v.toInt < pn.toInt := by
  have := i_cl h0
  rw [e]
  exact h _ (by omega)
theorem okP_at {pn a : Int32} {pr : Nat → Int32} (h : okP pn a pr) {v i : Int32} (e : v = pr i.toNatClampNeg) (h0 : 0 ≤ i.toInt) (h1 : i.toInt ≤ pn.toInt) (h2 : ¬ i.toInt = a.toInt) : 0 ≤ v.toInt ∧ v.toInt < pn.toInt := by
  have := i_cl h0
  rw [e]
  exact h _ (by omega) (by omega)
theorem okP_0 {pn : Int32} {pr : Nat → Int32} (h : okO pn pr) : okP pn pn pr := fun j h1 h2 => h j (by omega)
theorem okP_step {pn a b v w : Int32} {f : Nat → Int32} (h : okP pn a f) (hv : v = f w.toNatClampNeg) (hw : w.toInt = a.toInt - 1) (hb : b.toInt = a.toInt - 1) (h0 : 0 < a.toInt) (h1 : a.toInt ≤ pn.toInt) : okP pn b (upd f a.toNatClampNeg v) := by
  have ca := i_cl (x := a) (by omega)
  have hv' := okP_at h hv (by omega) (by omega) (by omega)
  intro j h2 h3
  by_cases hj : j = a.toNatClampNeg
  · subst hj; rw [upd_s]; exact hv'
  · rw [upd_n _ _ hj]; exact h j h2 (by omega)
theorem okP_end {pn a b : Int32} {f : Nat → Int32} (h : okP pn a f) (hb : b.toInt = pn.toInt + 1) (h0 : 0 ≤ a.toInt) (hp : 0 ≤ pn.toInt) : okO b (upd f a.toNatClampNeg pn) := by
  have ca := i_cl h0
  intro j h2
  by_cases hj : j = a.toNatClampNeg
  · subst hj; rw [upd_s]; omega
  · rw [upd_n _ _ hj]; have := h j (by omega) (by omega); omega

def sp_paper (pn : Int32) (pk pf po pd pe : Nat → Int32) (cn k x y a b : Int32) : Int32 × Int32 × (Nat → Int32) × (Nat → Int32) × (Nat → Int32) × (Nat → Int32) × (Nat → Int32) := if 0 ≤ k.toInt ∧ k.toInt < cn.toInt ∧ 0 ≤ x.toInt ∧ x.toInt < 20 ∧ 0 ≤ y.toInt ∧ y.toInt < 20 ∧ ¬ x.toInt = y.toInt ∧ 0 ≤ a.toInt ∧ b.toInt < 10000 ∧ a.toInt ≤ b.toInt then (if 40 ≤ pn.toInt then (-1000003, pn, pk, pf, po, pd, pe) else (pn + 1, pn + 1, upd pk pn.toNatClampNeg k, upd pf pn.toNatClampNeg x, upd po pn.toNatClampNeg y, upd pd pn.toNatClampNeg a, upd pe pn.toNatClampNeg b)) else (-1000001, pn, pk, pf, po, pd, pe)


/-- the first n places of the pledges' order name pledges -/
def okR (n m : Int32) (gr : Nat → Int32) : Prop := ∀ j : Nat, (j : Int) < n.toInt → 0 ≤ (gr j).toInt ∧ (gr j).toInt < m.toInt
def okQ (n a m : Int32) (gr : Nat → Int32) : Prop := ∀ j : Nat, (j : Int) ≤ n.toInt → ¬ (j : Int) = a.toInt → 0 ≤ (gr j).toInt ∧ (gr j).toInt < m.toInt
theorem okR_at {n m : Int32} {pr : Nat → Int32} (h : okR n m pr) {v i : Int32} (e : v = pr i.toNatClampNeg) (h0 : 0 ≤ i.toInt) (h1 : i.toInt < n.toInt) : 0 ≤ v.toInt ∧ v.toInt < m.toInt := by
  have := i_cl h0
  rw [e]
  exact h _ (by omega)
theorem okQ_at {n a m : Int32} {pr : Nat → Int32} (h : okQ n a m pr) {v i : Int32} (e : v = pr i.toNatClampNeg) (h0 : 0 ≤ i.toInt) (h1 : i.toInt ≤ n.toInt) (h2 : ¬ i.toInt = a.toInt) : 0 ≤ v.toInt ∧ v.toInt < m.toInt := by
  have := i_cl h0
  rw [e]
  exact h _ (by omega) (by omega)
theorem okQ_0 {n m : Int32} {pr : Nat → Int32} (h : okR n m pr) : okQ n n m pr := fun j h1 h2 => h j (by omega)
theorem okQ_step {n m a b v w : Int32} {f : Nat → Int32} (h : okQ n a m f) (hv : v = f w.toNatClampNeg) (hw : w.toInt = a.toInt - 1) (hb : b.toInt = a.toInt - 1) (h0 : 0 < a.toInt) (h1 : a.toInt ≤ n.toInt) : okQ n b m (upd f a.toNatClampNeg v) := by
  have ca := i_cl (x := a) (by omega)
  have hv' := okQ_at h hv (by omega) (by omega) (by omega)
  intro j h2 h3
  by_cases hj : j = a.toNatClampNeg
  · subst hj; rw [upd_s]; exact hv'
  · rw [upd_n _ _ hj]; exact h j h2 (by omega)
theorem okQ_end {n m a b x : Int32} {f : Nat → Int32} (h : okQ n a m f) (hb : b.toInt = n.toInt + 1) (h0 : 0 ≤ a.toInt) (hx : 0 ≤ x.toInt) (hx2 : x.toInt < m.toInt) : okR b m (upd f a.toNatClampNeg x) := by
  have ca := i_cl h0
  intro j h2
  by_cases hj : j = a.toNatClampNeg
  · subst hj; rw [upd_s]; omega
  · rw [upd_n _ _ hj]; exact h j (by omega) (by omega)

theorem pbx {n gn b : Int32} {f : Nat → Int32} (h : ∀ b : Int32, b.toInt = n.toInt + 1 → okR b gn f) (hb : b.toInt = n.toInt + 1) : okR b gn f := h b hb


/-- holdings' owners and companies are owners and companies -/
def okH (hn : Int32) (ho hc : Nat → Int32) : Prop := ∀ j : Nat, (j : Int) < hn.toInt → 0 ≤ (ho j).toInt ∧ (ho j).toInt < 20 ∧ 10 ≤ (hc j).toInt ∧ (hc j).toInt < 20
theorem okH_o {hn : Int32} {ho hc : Nat → Int32} (h : okH hn ho hc) {v i : Int32} (e : v = ho i.toNatClampNeg) (h0 : 0 ≤ i.toInt) (h1 : i.toInt < hn.toInt) : 0 ≤ v.toInt ∧ v.toInt < 20 := by
  have := i_cl h0
  rw [e]
  have := h _ (show ((i.toNatClampNeg : Nat) : Int) < hn.toInt by omega)
  omega
theorem okH_c {hn : Int32} {ho hc : Nat → Int32} (h : okH hn ho hc) {v i : Int32} (e : v = hc i.toNatClampNeg) (h0 : 0 ≤ i.toInt) (h1 : i.toInt < hn.toInt) : 10 ≤ v.toInt ∧ v.toInt < 20 := by
  have := i_cl h0
  rw [e]
  have := h _ (show ((i.toNatClampNeg : Nat) : Int) < hn.toInt by omega)
  omega

def sp_room (aw iw : Nat → Int32) (q w v : Int32) : Int32 × (Nat → Int32) × (Nat → Int32) := if 0 ≤ q.toInt ∧ q.toInt < 6 ∧ 0 ≤ w.toInt ∧ w.toInt < 2 ∧ 0 ≤ v.toInt ∧ ((w.toInt = 0 ∧ v.toInt ≤ 12) ∨ (w.toInt = 1 ∧ v.toInt ≤ 1000000)) then (if w.toInt = 0 then (aw q.toNatClampNeg, upd aw q.toNatClampNeg v, iw) else (iw q.toNatClampNeg, aw, upd iw q.toNatClampNeg v)) else (-1000001, aw, iw)

/-- the number drawn for a crate on a day -/
def an_lot (sd a d : Int32) : Int64 :=
  let z0 : Int64 := sd.toInt64 + a.toInt64 * 1000003 + d.toInt64 * 8191
  let z1 : Int64 := z0 * (-7046029254386353131)
  let z2 : Int64 := z1 ^^^ (z1.toUInt64 >>> ((29 : Int32).toInt64.toUInt64 &&& Int64.toUInt64 63)).toInt64
  let z3 : Int64 := z2 * (-4658895280553007687)
  let z4 : Int64 := z3 ^^^ (z3.toUInt64 >>> ((32 : Int32).toInt64.toUInt64 &&& Int64.toUInt64 63)).toInt64
  z4 &&& 9223372036854775807
def an_lotn (sd a d n : Int32) : Int32 := if 0 ≤ a.toInt ∧ a.toInt < 12 ∧ 0 ≤ d.toInt ∧ d.toInt < 10000 ∧ 1 ≤ n.toInt ∧ n.toInt ≤ 1000000 then (an_lot sd a d - an_lot sd a d / n.toInt64 * n.toInt64).toInt32 else -1000001


def okS (ss : Nat → Int32) : Prop := ∀ j : Nat, j < 8 → -1 ≤ (ss j).toInt ∧ (ss j).toInt ≤ 60
theorem okS_at {ss : Nat → Int32} (h : okS ss) {i v : Int32} (e : v = ss i.toNatClampNeg) (h0 : 0 ≤ i.toInt) (h1 : i.toInt < 8) : -1 ≤ v.toInt ∧ v.toInt ≤ 60 := by
  have := i_cl h0
  rw [e]
  exact h _ (by omega)
theorem okS_up {ss : Nat → Int32} (h : okS ss) {n : Int32} (k : Nat) (h0 : -1 ≤ n.toInt) (h1 : n.toInt ≤ 60) : okS (upd ss k n) := by
  intro j hj
  by_cases e : j = k
  · subst e; rw [upd_s]; exact ⟨h0, h1⟩
  · rw [upd_n _ _ e]; exact h j hj

def sp_sheet (lf : Int32) (rs : Nat → Nat → Int32) (sl ss : Nat → Int32) (a b n : Int32) : Int32 × Int32 × (Nat → Nat → Int32) × (Nat → Int32) × (Nat → Int32) := if 0 ≤ a.toInt ∧ a.toInt < 8 ∧ 0 ≤ b.toInt ∧ b.toInt < 3 ∧ n.toInt ≤ 60 then (if n.toInt < 0 then (-1000014, 4, rs, sl, ss) else (n, 0, upR rs a.toNatClampNeg (fun _ => 0), upd sl a.toNatClampNeg b, upd ss a.toNatClampNeg n)) else (-1000001, lf, rs, sl, ss)

/-- what a lane keeps of a number -/
def kept (t v : Int32) : Int32 := if t.toInt = 0 then v.toInt8.toInt32 else if t.toInt = 1 then v.toInt16.toInt32 else v

def sp_set (lf : Int32) (rs : Nat → Nat → Int32) (sl ss : Nat → Int32) (a i v : Int32) : Int32 × Int32 × (Nat → Nat → Int32) := if 0 ≤ a.toInt ∧ a.toInt < 8 then (if (ss a.toNatClampNeg).toInt = -1 then (-1000011, 1, rs) else if 0 ≤ i.toInt ∧ i.toInt + 1 ≤ (ss a.toNatClampNeg).toInt then (kept (sl a.toNatClampNeg) v, 0, upR rs a.toNatClampNeg (upd (rs a.toNatClampNeg) i.toNatClampNeg (kept (sl a.toNatClampNeg) v))) else (-1000012, 2, rs)) else (-1000001, lf, rs)
def sp_drop (lf : Int32) (ss : Nat → Int32) (a : Int32) : Int32 × Int32 × (Nat → Int32) := if 0 ≤ a.toInt ∧ a.toInt < 8 then (if (ss a.toNatClampNeg).toInt = -1 then (-1000011, 1, ss) else (ss a.toNatClampNeg, 0, upd ss a.toNatClampNeg (-1))) else (-1000001, lf, ss)
def sp_copy (lf : Int32) (rs : Nat → Nat → Int32) (sl ss : Nat → Int32) (a i b j n : Int32) : Int32 × Int32 × (Nat → Nat → Int32) := if 0 ≤ a.toInt ∧ a.toInt < 8 ∧ 0 ≤ b.toInt ∧ b.toInt < 8 then (if (ss a.toNatClampNeg).toInt = -1 ∨ (ss b.toNatClampNeg).toInt = -1 then (-1000011, 1, rs) else if ¬ (sl a.toNatClampNeg).toInt = (sl b.toNatClampNeg).toInt then (-1000015, 5, rs) else if 0 ≤ i.toInt ∧ 0 ≤ n.toInt ∧ i.toInt + n.toInt ≤ (ss a.toNatClampNeg).toInt ∧ 0 ≤ j.toInt ∧ j.toInt + n.toInt ≤ (ss b.toNatClampNeg).toInt then (n, 0, upR rs b.toNatClampNeg (va_cpy (rs a.toNatClampNeg) (rs b.toNatClampNeg) i.toNatClampNeg j.toNatClampNeg n.toNatClampNeg)) else (-1000012, 2, rs)) else (-1000001, lf, rs)


theorem sp_hold_ok {hn : Int32} {ho hc hp hs : Nat → Int32} {o k q d r hn' : Int32} {ho' hc' hp' hs' : Nat → Int32} (e : (r, hn', ho', hc', hp', hs') = sp_hold hn ho hc hp hs o k q d) (h1 : 0 ≤ hn.toInt) (h2 : hn.toInt ≤ 40) (h3 : okH hn ho hc) : 0 ≤ hn'.toInt ∧ hn'.toInt ≤ 40 ∧ okH hn' ho' hc' := by
  unfold sp_hold at e
  have ch := i_cl h1
  split at e
  · split at e
    · simp only [Prod.mk.injEq] at e
      obtain ⟨-, rfl, rfl, rfl, -, -⟩ := e
      exact ⟨h1, h2, h3⟩
    · rename_i g1 g2
      have k1 : (1 : Int32).toInt = 1 := rfl
      have t1 : (hn + 1).toInt = hn.toInt + 1 := by rw [i_add (by omega) (by omega), k1]
      simp only [Prod.mk.injEq] at e
      obtain ⟨-, rfl, rfl, rfl, -, -⟩ := e
      refine ⟨by omega, by omega, fun j hj => ?_⟩
      by_cases hk : j = hn.toNatClampNeg
      · subst hk; rw [upd_s, upd_s]; omega
      · rw [upd_n _ _ hk, upd_n _ _ hk]; exact h3 j (by omega)
  · simp only [Prod.mk.injEq] at e
    obtain ⟨-, rfl, rfl, rfl, -, -⟩ := e
    exact ⟨h1, h2, h3⟩
