
/-- the words' text, its bytes -/
def WORDT : String := "sold  shown out   mendedpart  "
def WORDB : List Int32 := [115, 111, 108, 100, 32, 32, 115, 104, 111, 119, 110, 32, 111, 117, 116, 32, 32, 32, 109, 101, 110, 100, 101, 100, 112, 97, 114, 116, 32, 32]
/-- the end of a run of bytes -/
def runE (P : Int → Bool) (T : Nat → Int32) (L : Nat) : Nat → Nat → Nat
  | 0, i => i
  | f + 1, i => if i < L ∧ P (T i).toInt = true then runE P T L f (i + 1) else i
def runTo (P : Int → Bool) (T : Nat → Int32) (L i : Nat) : Nat := runE P T L (L - i) i
theorem runTo_in {P : Int → Bool} {T : Nat → Int32} {L i : Nat} (h : i < L) (hp : P (T i).toInt = true) : runTo P T L i = runTo P T L (i + 1) := by
  unfold runTo
  rw [show L - i = (L - (i + 1)) + 1 by omega]
  show (if i < L ∧ P (T i).toInt = true then runE P T L (L - (i + 1)) (i + 1) else i) = _
  rw [if_pos ⟨h, hp⟩]
theorem runTo_out {P : Int → Bool} {T : Nat → Int32} {L i : Nat} (h : ¬ (i < L ∧ P (T i).toInt = true)) : runTo P T L i = i := by
  unfold runTo
  cases L - i with
  | zero => rfl
  | succ f =>
    show (if i < L ∧ P (T i).toInt = true then runE P T L f (i + 1) else i) = i
    rw [if_neg h]
theorem runE_le {P : Int → Bool} {T : Nat → Int32} {L : Nat} (f i : Nat) (h : i ≤ L) : i ≤ runE P T L f i ∧ runE P T L f i ≤ L := by
  induction f generalizing i with
  | zero => exact ⟨Nat.le_refl _, h⟩
  | succ f ih =>
    show i ≤ (if i < L ∧ P (T i).toInt = true then runE P T L f (i + 1) else i) ∧ (if i < L ∧ P (T i).toInt = true then runE P T L f (i + 1) else i) ≤ L
    split
    · have h9 := ih (i + 1) (by omega)
      omega
    · omega
theorem runTo_le {P : Int → Bool} {T : Nat → Int32} {L i : Nat} (h : i ≤ L) : i ≤ runTo P T L i ∧ runTo P T L i ≤ L := runE_le _ _ h
def spB (x : Int) : Bool := decide (x = 32 ∨ x = 10)
def leB (x : Int) : Bool := decide (97 ≤ x ∧ x ≤ 122)
def fiB (x : Int) : Bool := decide (48 ≤ x ∧ x ≤ 57)
theorem sp_in {T : Nat → Int32} {L i : Nat} (h : i < L) (hp : (T i).toInt = 32 ∨ (T i).toInt = 10) : runTo spB T L i = runTo spB T L (i + 1) := runTo_in h (decide_eq_true hp)
theorem sp_out {T : Nat → Int32} {L i : Nat} (h : ¬ i < L ∨ ¬ ((T i).toInt = 32 ∨ (T i).toInt = 10)) : runTo spB T L i = i := runTo_out (fun z => by have z2 := of_decide_eq_true z.2; rcases h with h | h; exact h z.1; exact h z2)
theorem le_in {T : Nat → Int32} {L i : Nat} (h : i < L) (hp : 97 ≤ (T i).toInt ∧ (T i).toInt ≤ 122) : runTo leB T L i = runTo leB T L (i + 1) := runTo_in h (decide_eq_true hp)
theorem le_out {T : Nat → Int32} {L i : Nat} (h : ¬ i < L ∨ ¬ (97 ≤ (T i).toInt ∧ (T i).toInt ≤ 122)) : runTo leB T L i = i := runTo_out (fun z => by have z2 := of_decide_eq_true z.2; rcases h with h | h; exact h z.1; exact h z2)
theorem fi_in {T : Nat → Int32} {L i : Nat} (h : i < L) (hp : 48 ≤ (T i).toInt ∧ (T i).toInt ≤ 57) : runTo fiB T L i = runTo fiB T L (i + 1) := runTo_in h (decide_eq_true hp)
theorem fi_out {T : Nat → Int32} {L i : Nat} (h : ¬ i < L ∨ ¬ (48 ≤ (T i).toInt ∧ (T i).toInt ≤ 57)) : runTo fiB T L i = i := runTo_out (fun z => by have z2 := of_decide_eq_true z.2; rcases h with h | h; exact h z.1; exact h z2)
/-- where the next token begins, where it ends -/
def tS (T : Nat → Int32) (L c : Nat) : Nat := runTo spB T L c
def tE (T : Nat → Int32) (L c : Nat) : Nat := if tS T L c < L then (if 97 ≤ (T (tS T L c)).toInt ∧ (T (tS T L c)).toInt ≤ 122 then runTo leB T L (tS T L c) else if 48 ≤ (T (tS T L c)).toInt ∧ (T (tS T L c)).toInt ≤ 57 then runTo fiB T L (tS T L c) else tS T L c + 1) else tS T L c
/-- the letters from s to e are word w -/
abbrev wdIs (T : Nat → Int32) (s e w : Nat) : Prop := ∀ k, k < 6 → (if s + k < e then (T (s + k)).toInt else 32) = (WORDB.getD (6 * w + k) 0).toInt
def wdK (T : Nat → Int32) (s e : Nat) : Nat → Int
  | 0 => 9
  | w + 1 => if wdIs T s e w then (w : Int) else wdK T s e w
theorem wdK_s (T : Nat → Int32) (s e w : Nat) : wdK T s e (w + 1) = if wdIs T s e w then (w : Int) else wdK T s e w := rfl
/-- the number of n figures from s on -/
def nmV (T : Nat → Int32) (s : Nat) : Nat → Int
  | 0 => 0
  | n + 1 => nmV T s n * 10 + (T (s + n)).toInt - 48
theorem nmV_s (T : Nat → Int32) (s n : Nat) : nmV T s (n + 1) = nmV T s n * 10 + (T (s + n)).toInt - 48 := rfl
/-- what the next token is: 0 to 3 an act, 4 part, 5 a number, 6 ;, 7 >, 8 the end, 9 none -/
def tK (T : Nat → Int32) (L c : Nat) : Int := if tS T L c < L then (if 97 ≤ (T (tS T L c)).toInt ∧ (T (tS T L c)).toInt ≤ 122 then (if tS T L c + 6 < tE T L c then 9 else wdK T (tS T L c) (tE T L c) 5) else if 48 ≤ (T (tS T L c)).toInt ∧ (T (tS T L c)).toInt ≤ 57 then (if tS T L c + 4 < tE T L c then 9 else 5) else if (T (tS T L c)).toInt = 59 then 6 else if (T (tS T L c)).toInt = 62 then 7 else 9) else 8
def tN (T : Nat → Int32) (L c : Nat) : Int := nmV T (tS T L c) (tE T L c - tS T L c)
theorem tok_end {T : Nat → Int32} {L c s : Nat} (hs : tS T L c = s) (h : ¬ s < L) : tE T L c = s ∧ tK T L c = 8 := by
  unfold tK tE
  rw [hs, if_neg h, if_neg h]
  exact ⟨rfl, rfl⟩
theorem tok_let {T : Nat → Int32} {L c s e : Nat} (hs : tS T L c = s) (h : s < L) (hl : 97 ≤ (T s).toInt ∧ (T s).toInt ≤ 122) (he : runTo leB T L s = e) : tE T L c = e ∧ tK T L c = (if s + 6 < e then 9 else wdK T s e 5) := by
  have e1 : tE T L c = e := by
    unfold tE
    rw [hs, if_pos h, if_pos hl, he]
  refine ⟨e1, ?_⟩
  unfold tK
  rw [e1, hs, if_pos h, if_pos hl]
theorem tok_fig {T : Nat → Int32} {L c s e : Nat} (hs : tS T L c = s) (h : s < L) (hl : 48 ≤ (T s).toInt ∧ (T s).toInt ≤ 57) (he : runTo fiB T L s = e) : tE T L c = e ∧ tK T L c = (if s + 4 < e then 9 else 5) ∧ tN T L c = nmV T s (e - s) := by
  have e1 : tE T L c = e := by
    unfold tE
    rw [hs, if_pos h, if_neg (by omega), if_pos hl, he]
  refine ⟨e1, ?_, ?_⟩
  · unfold tK
    rw [e1, hs, if_pos h, if_neg (by omega), if_pos hl]
  · unfold tN
    rw [e1, hs]
theorem tok_sgn {T : Nat → Int32} {L c s : Nat} (hs : tS T L c = s) (h : s < L) (hl : ¬ (97 ≤ (T s).toInt ∧ (T s).toInt ≤ 122)) (hf : ¬ (48 ≤ (T s).toInt ∧ (T s).toInt ≤ 57)) : tE T L c = s + 1 ∧ tK T L c = (if (T s).toInt = 59 then 6 else if (T s).toInt = 62 then 7 else 9) := by
  unfold tK tE
  rw [hs, if_pos h, if_pos h, if_neg hl, if_neg hl, if_neg hf, if_neg hf]
  exact ⟨rfl, rfl⟩
theorem tS_le {T : Nat → Int32} {L c : Nat} (h : c ≤ L) : c ≤ tS T L c ∧ tS T L c ≤ L := runTo_le h
theorem tE_le {T : Nat → Int32} {L c : Nat} (h : c ≤ L) : tS T L c ≤ tE T L c ∧ tE T L c ≤ L ∧ (tS T L c < L → tS T L c < tE T L c) := by
  have h1 := tS_le (T := T) h
  unfold tE
  split
  · rename_i g
    split
    · rename_i gl
      have h2 := runTo_le (P := leB) (T := T) (show tS T L c + 1 ≤ L by omega)
      rw [le_in g gl]
      omega
    · split
      · rename_i gf
        have h2 := runTo_le (P := fiB) (T := T) (show tS T L c + 1 ≤ L by omega)
        rw [fi_in g gf]
        omega
      · omega
  · omega
theorem wdK_rng (T : Nat → Int32) (s e : Nat) : ∀ w, w ≤ 5 → 0 ≤ wdK T s e w ∧ (wdK T s e w < w ∨ wdK T s e w = 9)
  | 0, _ => ⟨by show (0 : Int) ≤ 9; decide, Or.inr rfl⟩
  | w + 1, h => by
    rw [wdK_s]
    have h9 := wdK_rng T s e w (by omega)
    split <;> omega
/-- the act of a line: behind its word, at c -/
def acR (T : Nat → Int32) (L c : Nat) : Int := if tK T L c = 7 ∧ ¬ tK T L (tE T L c) = 5 then 1 else 0
def acP (T : Nat → Int32) (L c : Nat) : Nat := if tK T L c = 7 then (if tK T L (tE T L c) = 5 then tE T L (tE T L c) else tE T L c) else c
def acD (T : Nat → Int32) (L c : Nat) : Int := if tK T L c = 7 then tN T L (tE T L c) else -1
/-- the part of a line: behind the word part, at c -/
def paR (T : Nat → Int32) (L c : Nat) : Int := if ¬ tK T L c = 5 then 1 else if 100 < tN T L c then 2 else if ¬ tK T L (tE T L c) = 6 then 1 else 0
def paP (T : Nat → Int32) (L c : Nat) : Nat := if ¬ tK T L c = 5 then c else if 100 < tN T L c then c else if ¬ tK T L (tE T L c) = 6 then tE T L c else tE T L (tE T L c)
/-- a line that begins at c: its fault, the fault's place, the next line's beginning -/
def lnR (T : Nat → Int32) (L c : Nat) : Int := if 4 ≤ tK T L c then 1 else if acR T L (tE T L c) = 1 then 1 else if ¬ tK T L (acP T L (tE T L c)) = 4 then 1 else paR T L (tE T L (acP T L (tE T L c)))
def lnX (T : Nat → Int32) (L c : Nat) : Nat := if 4 ≤ tK T L c then tS T L c else if acR T L (tE T L c) = 1 then tS T L (acP T L (tE T L c)) else if ¬ tK T L (acP T L (tE T L c)) = 4 then tS T L (acP T L (tE T L c)) else tS T L (paP T L (tE T L (acP T L (tE T L c))))
def lnN (T : Nat → Int32) (L c : Nat) : Nat := paP T L (tE T L (acP T L (tE T L c)))
def lnD (T : Nat → Int32) (L c : Nat) : Int := acD T L (tE T L c)
def lnP (T : Nat → Int32) (L c : Nat) : Int := tN T L (tE T L (acP T L (tE T L c)))
/-- where line n begins -/
def poL (T : Nat → Int32) (L : Nat) : Nat → Nat
  | 0 => 0
  | n + 1 => lnN T L (poL T L n)
theorem poL_s (T : Nat → Int32) (L n : Nat) : poL T L (n + 1) = lnN T L (poL T L n) := rfl
/-- the first n lines are good -/
def duOk (T : Nat → Int32) (L n : Nat) : Prop := ∀ j, j < n → ¬ tK T L (poL T L j) = 8 ∧ lnR T L (poL T L j) = 0
theorem duOk_s {T : Nat → Int32} {L n : Nat} (h : duOk T L n) (h1 : ¬ tK T L (poL T L n) = 8) (h2 : lnR T L (poL T L n) = 0) : duOk T L (n + 1) := fun j hj => if e : j = n then (by rw [e]; exact ⟨h1, h2⟩) else h j (by omega)
/-- the fault at line n, and its place -/
def dcF (T : Nat → Int32) (L n : Nat) : Int := if n < 12 then lnR T L (poL T L n) else if 4 ≤ tK T L (poL T L n) then 1 else 3
def dpF (T : Nat → Int32) (L n : Nat) : Nat := if n < 12 then lnX T L (poL T L n) else tS T L (poL T L n)
/-- the first n lines stand in the rows -/
def duLn (T : Nat → Int32) (L n : Nat) (w d p : Nat → Int32) : Prop := ∀ j, j < n → (w j).toInt = tK T L (poL T L j) ∧ (d j).toInt = lnD T L (poL T L j) ∧ (p j).toInt = lnP T L (poL T L j)
/-- what reading the tape answers and leaves -/
def duP (T : Nat → Int32) (L : Nat) (r lfa dl lfa' dl' : Int32) (w d p w' d' p' : Nat → Int32) : Prop := ∃ n, n ≤ 12 ∧ duOk T L n ∧ ((tK T L (poL T L n) = 8 ∧ r.toInt = n ∧ lfa' = lfa ∧ dl'.toInt = n ∧ duLn T L n w' d' p') ∨ (¬ tK T L (poL T L n) = 8 ∧ ¬ dcF T L n = 0 ∧ lfa'.toInt = dcF T L n ∧ r.toInt = -1000100 - (dpF T L n : Int) ∧ dl' = dl ∧ w' = w ∧ d' = d ∧ p' = p))
theorem poL_le (T : Nat → Int32) (L : Nat) : ∀ n, poL T L n ≤ L
  | 0 => Nat.zero_le _
  | n + 1 => by
    have h0 := poL_le T L n
    rw [poL_s]
    have e1 := (tE_le (T := T) h0).2.1
    have a1 : acP T L (tE T L (poL T L n)) ≤ L := by
      have e2 := (tE_le (T := T) e1).2.1
      have e3 := (tE_le (T := T) e2).2.1
      unfold acP
      (repeat' split) <;> omega
    have e4 := (tE_le (T := T) a1).2.1
    have e5 := (tE_le (T := T) e4).2.1
    have e6 := (tE_le (T := T) e5).2.1
    unfold lnN paP
    (repeat' split) <;> omega
/-- the token at c stands in the reader's fields -/
def tokQ (T : Nat → Int32) (L c : Nat) (bs be tk nb : Int32) : Prop := bs.toInt = (tS T L c : Int) ∧ be.toInt = (tE T L c : Int) ∧ tk.toInt = tK T L c ∧ (tk.toInt = 5 → nb.toInt = tN T L c)
def raQ (T : Nat → Int32) (L : Nat) (dr bs be tk : Int32) (xw xd : Nat → Int32) (r bs' be' tk' nb' : Int32) (xw' xd' : Nat → Int32) : Prop := (∀ j, ¬ j = dr.toNatClampNeg → xw' j = xw j ∧ xd' j = xd j) ∧ ((4 ≤ tk.toInt ∧ r.toInt = 1 ∧ bs' = bs) ∨ (tk.toInt < 4 ∧ 12 ≤ dr.toInt ∧ r.toInt = 3 ∧ bs' = bs) ∨ (tk.toInt < 4 ∧ dr.toInt < 12 ∧ r.toInt = acR T L be.toNatClampNeg ∧ tokQ T L (acP T L be.toNatClampNeg) bs' be' tk' nb' ∧ xw' dr.toNatClampNeg = tk ∧ (r.toInt = 0 → (xd' dr.toNatClampNeg).toInt = acD T L be.toNatClampNeg)))
def rpQ (T : Nat → Int32) (L : Nat) (dr bs be tk : Int32) (xp : Nat → Int32) (r bs' be' tk' nb' dr' : Int32) (xp' : Nat → Int32) : Prop := (∀ j, ¬ j = dr.toNatClampNeg → xp' j = xp j) ∧ ((¬ tk.toInt = 4 ∧ r.toInt = 1 ∧ bs' = bs ∧ dr' = dr) ∨ (tk.toInt = 4 ∧ r.toInt = paR T L be.toNatClampNeg ∧ tokQ T L (paP T L be.toNatClampNeg) bs' be' tk' nb' ∧ (r.toInt = 0 → dr'.toInt = dr.toInt + 1 ∧ (xp' dr.toNatClampNeg).toInt = tN T L be.toNatClampNeg) ∧ (¬ r.toInt = 0 → dr' = dr)))
/-- between two lines -/
def rdI (T : Nat → Int32) (L : Nat) (f k dr bs be tk nb : Int32) (xw xd xp : Nat → Int32) : Prop := duOk T L dr.toNatClampNeg ∧ duLn T L dr.toNatClampNeg xw xd xp ∧ ((f.toInt = 0 ∧ k.toInt = dr.toInt ∧ tokQ T L (poL T L dr.toNatClampNeg) bs be tk nb) ∨ (¬ f.toInt = 0 ∧ f.toInt = dcF T L dr.toNatClampNeg ∧ bs.toInt = (dpF T L dr.toNatClampNeg : Int) ∧ ¬ tK T L (poL T L dr.toNatClampNeg) = 8))
theorem acR_01 (T : Nat → Int32) (L c : Nat) : acR T L c = 0 ∨ acR T L c = 1 := by
  unfold acR
  split
  · exact Or.inr rfl
  · exact Or.inl rfl
theorem du_a1 {T : Nat → Int32} {L n : Nat} (h : 4 ≤ tK T L (poL T L n)) : dcF T L n = 1 ∧ dpF T L n = tS T L (poL T L n) := by
  unfold dcF dpF lnR lnX
  by_cases c : n < 12
  · constructor <;> simp only [if_pos c, if_pos h]
  · constructor <;> simp only [if_neg c, if_pos h]
theorem du_a2 {T : Nat → Int32} {L n : Nat} (h : tK T L (poL T L n) < 4) (c : ¬ n < 12) : dcF T L n = 3 ∧ dpF T L n = tS T L (poL T L n) := by
  unfold dcF dpF
  have h4 : ¬ 4 ≤ tK T L (poL T L n) := by omega
  constructor <;> simp only [if_neg c, if_neg h4]
theorem du_a3 {T : Nat → Int32} {L n : Nat} (h : tK T L (poL T L n) < 4) (c : n < 12) (ha : acR T L (tE T L (poL T L n)) = 1) : dcF T L n = 1 ∧ dpF T L n = tS T L (acP T L (tE T L (poL T L n))) := by
  unfold dcF dpF lnR lnX
  have h4 : ¬ 4 ≤ tK T L (poL T L n) := by omega
  constructor <;> simp only [if_pos c, if_neg h4, if_pos ha]
theorem du_b1 {T : Nat → Int32} {L n : Nat} (h : tK T L (poL T L n) < 4) (c : n < 12) (ha : acR T L (tE T L (poL T L n)) = 0) (hp : ¬ tK T L (acP T L (tE T L (poL T L n))) = 4) : dcF T L n = 1 ∧ dpF T L n = tS T L (acP T L (tE T L (poL T L n))) := by
  unfold dcF dpF lnR lnX
  have h4 : ¬ 4 ≤ tK T L (poL T L n) := by omega
  have h5 : ¬ acR T L (tE T L (poL T L n)) = 1 := by omega
  constructor <;> simp only [if_pos c, if_neg h4, if_neg h5, if_pos hp]
theorem du_b2 {T : Nat → Int32} {L n : Nat} (h : tK T L (poL T L n) < 4) (c : n < 12) (ha : acR T L (tE T L (poL T L n)) = 0) (hp : tK T L (acP T L (tE T L (poL T L n))) = 4) : dcF T L n = paR T L (tE T L (acP T L (tE T L (poL T L n)))) ∧ dpF T L n = tS T L (lnN T L (poL T L n)) ∧ lnR T L (poL T L n) = paR T L (tE T L (acP T L (tE T L (poL T L n)))) := by
  have h4 : ¬ 4 ≤ tK T L (poL T L n) := by omega
  have h5 : ¬ acR T L (tE T L (poL T L n)) = 1 := by omega
  have h6 : ¬ ¬ tK T L (acP T L (tE T L (poL T L n))) = 4 := by omega
  have e : lnR T L (poL T L n) = paR T L (tE T L (acP T L (tE T L (poL T L n)))) := by
    unfold lnR
    rw [if_neg h4, if_neg h5, if_neg h6]
  unfold dcF dpF
  rw [if_pos c, if_pos c, e]
  refine ⟨rfl, ?_, rfl⟩
  unfold lnX lnN
  rw [if_neg h4, if_neg h5, if_neg h6]
theorem duLn_same {T : Nat → Int32} {L n : Nat} {w d p w' d' p' : Nat → Int32} (h : duLn T L n w d p) (h1 : ∀ j, ¬ j = n → w' j = w j ∧ d' j = d j) (h2 : ∀ j, ¬ j = n → p' j = p j) : duLn T L n w' d' p' := fun j hj => by
  have a := h1 j (by omega)
  rw [a.1, a.2, h2 j (by omega)]
  exact h j hj
theorem rd_A {T : Nat → Int32} {L : Nat} {f k k' dr bs be tk nb r bs' be' tk' nb' : Int32} {xw xd xp xw' xd' : Nat → Int32} (h : rdI T L f k dr bs be tk nb xw xd xp) (hf : f.toInt = 0) (h8 : ¬ tk.toInt = 8) (d0 : 0 ≤ dr.toInt) (b0 : 0 ≤ be.toInt) (ra : raQ T L dr bs be tk xw xd r bs' be' tk' nb' xw' xd') (hr : ¬ r.toInt = 0) : rdI T L r k' dr bs' be' tk' nb' xw' xd' xp := by
  obtain ⟨i1, i2, i3⟩ := h
  obtain ⟨ra0, ra⟩ := ra
  have cd := i_cl d0
  have cb := i_cl b0
  rcases i3 with ⟨-, i4, q1, q2, q3, q4⟩ | ⟨i4, -⟩
  · have eb : be.toNatClampNeg = tE T L (poL T L dr.toNatClampNeg) := by omega
    refine ⟨i1, duLn_same i2 ra0 (fun _ _ => rfl), Or.inr ⟨hr, ?_⟩⟩
    rcases ra with ⟨a1, a2, a3⟩ | ⟨a1, a2, a3, a4⟩ | ⟨a1, a2, a3, a4, -⟩
    · obtain ⟨c1, c2⟩ := du_a1 (T := T) (L := L) (n := dr.toNatClampNeg) (by omega)
      rw [a3]
      exact ⟨by omega, by omega, by omega⟩
    · obtain ⟨c1, c2⟩ := du_a2 (T := T) (L := L) (n := dr.toNatClampNeg) (by omega) (by omega)
      rw [a4]
      exact ⟨by omega, by omega, by omega⟩
    · rw [eb] at a3 a4
      have e1 := acR_01 T L (tE T L (poL T L dr.toNatClampNeg))
      obtain ⟨c1, c2⟩ := du_a3 (T := T) (L := L) (n := dr.toNatClampNeg) (by omega) (by omega) (by omega)
      have a5 := a4.1
      exact ⟨by omega, by omega, by omega⟩
  · exact absurd hf i4
theorem rd_B {T : Nat → Int32} {L : Nat} {f k k' dr dr' bs be tk nb r r2 bs' be' tk' nb' bs2 be2 tk2 nb2 : Int32} {xw xd xp xw' xd' xp' : Nat → Int32} (h : rdI T L f k dr bs be tk nb xw xd xp) (hf : f.toInt = 0) (h8 : ¬ tk.toInt = 8) (d0 : 0 ≤ dr.toInt) (b0 : 0 ≤ be.toInt) (b1 : 0 ≤ be'.toInt) (hk : k'.toInt = k.toInt + 1) (ra : raQ T L dr bs be tk xw xd r bs' be' tk' nb' xw' xd') (hr : r.toInt = 0) (rp : rpQ T L dr bs' be' tk' xp r2 bs2 be2 tk2 nb2 dr' xp') : rdI T L r2 k' dr' bs2 be2 tk2 nb2 xw' xd' xp' := by
  obtain ⟨i1, i2, i3⟩ := h
  obtain ⟨ra0, ra⟩ := ra
  obtain ⟨rp0, rp⟩ := rp
  have cd := i_cl d0
  have cb := i_cl b0
  have cb' := i_cl b1
  rcases i3 with ⟨-, i4, q1, q2, q3, q4⟩ | ⟨i4, -⟩
  · have eb : be.toNatClampNeg = tE T L (poL T L dr.toNatClampNeg) := by omega
    rcases ra with ⟨a1, a2, a3⟩ | ⟨a1, a2, a3, a4⟩ | ⟨a1, a2, a3, a4, a5, a6⟩
    · omega
    · omega
    · rw [eb] at a3 a4 a6
      have a7 := a6 hr
      obtain ⟨t1, t2, t3, t4⟩ := a4
      have eb' : be'.toNatClampNeg = tE T L (acP T L (tE T L (poL T L dr.toNatClampNeg))) := by omega
      rcases rp with ⟨p1, p2, p3, p4⟩ | ⟨p1, p2, p3, p4, p5⟩
      · obtain ⟨c1, c2⟩ := du_b1 (T := T) (L := L) (n := dr.toNatClampNeg) (by omega) (by omega) (by omega) (by omega)
        rw [p4, p3]
        exact ⟨i1, duLn_same i2 ra0 rp0, Or.inr ⟨by omega, by omega, by omega, by omega⟩⟩
      · rw [eb'] at p2 p3 p4
        obtain ⟨c1, c2, c3⟩ := du_b2 (T := T) (L := L) (n := dr.toNatClampNeg) (by omega) (by omega) (by omega) (by omega)
        by_cases z : r2.toInt = 0
        · obtain ⟨p6, p7⟩ := p4 z
          have cd' := i_cl (x := dr') (by omega)
          have ed : dr'.toNatClampNeg = dr.toNatClampNeg + 1 := by omega
          rw [show rdI T L r2 k' dr' bs2 be2 tk2 nb2 xw' xd' xp' = (duOk T L dr'.toNatClampNeg ∧ duLn T L dr'.toNatClampNeg xw' xd' xp' ∧ ((r2.toInt = 0 ∧ k'.toInt = dr'.toInt ∧ tokQ T L (poL T L dr'.toNatClampNeg) bs2 be2 tk2 nb2) ∨ (¬ r2.toInt = 0 ∧ r2.toInt = dcF T L dr'.toNatClampNeg ∧ bs2.toInt = (dpF T L dr'.toNatClampNeg : Int) ∧ ¬ tK T L (poL T L dr'.toNatClampNeg) = 8))) from rfl, ed]
          refine ⟨duOk_s i1 (by omega) (by omega), fun j hj => ?_, Or.inl ⟨z, by omega, ?_⟩⟩
          · by_cases e : j = dr.toNatClampNeg
            · rw [e, a5]
              exact ⟨q3, a7, p7⟩
            · have s := duLn_same i2 ra0 rp0 j (by omega)
              exact s
          · rw [poL_s]
            exact p3
        · rw [p5 z]
          have p8 := p3.1
          have e9 : paP T L (tE T L (acP T L (tE T L (poL T L dr.toNatClampNeg)))) = lnN T L (poL T L dr.toNatClampNeg) := rfl
          rw [e9] at p8
          exact ⟨i1, duLn_same i2 ra0 rp0, Or.inr ⟨z, by omega, by omega, by omega⟩⟩
  · exact absurd hf i4
theorem rd_0 {T : Nat → Int32} {L : Nat} {bs be tk nb : Int32} {xw xd xp : Nat → Int32} (h : tokQ T L ((0 : Int32).toNatClampNeg) bs be tk nb) : rdI T L 0 0 0 bs be tk nb xw xd xp := by
  have z0 : (0 : Int32).toNatClampNeg = 0 := rfl
  rw [z0] at h
  unfold rdI
  rw [z0]
  exact ⟨fun j hj => absurd hj (by omega), fun j hj => absurd hj (by omega), Or.inl ⟨rfl, rfl, h⟩⟩


theorem l_bmod {z : Int} (h1 : -9223372036854775808 ≤ z) (h2 : z < 9223372036854775808) : z.bmod (2 ^ 64) = z := by
  rw [Int.bmod_def]; omega
theorem l_add {x y : Int64} (h1 : -9223372036854775808 ≤ x.toInt + y.toInt) (h2 : x.toInt + y.toInt < 9223372036854775808) : (x + y).toInt = x.toInt + y.toInt := by
  rw [Int64.toInt_add]; exact l_bmod h1 h2
theorem l_sub {x y : Int64} (h1 : -9223372036854775808 ≤ x.toInt - y.toInt) (h2 : x.toInt - y.toInt < 9223372036854775808) : (x - y).toInt = x.toInt - y.toInt := by
  rw [Int64.toInt_sub]; exact l_bmod h1 h2

/-- bit b of a is set -/
abbrev hbP (a b : Int32) : Prop := ¬ (((a.toUInt32 >>> (b.toUInt32 &&& Int32.toUInt32 31)).toInt32 &&& 1) = 0)

def sp_day (td d : Int32) : Int32 × Int32 := if 0 ≤ d.toInt ∧ d.toInt < 10000 then (td, d) else (-1000001, td)

def sp_hold (hn : Int32) (ho hc hp hs : Nat → Int32) (o k q d : Int32) : Int32 × Int32 × (Nat → Int32) × (Nat → Int32) × (Nat → Int32) × (Nat → Int32) := if 0 ≤ o.toInt ∧ o.toInt < 20 ∧ 10 ≤ k.toInt ∧ k.toInt < 20 ∧ ¬ o.toInt = k.toInt ∧ 0 ≤ q.toInt ∧ q.toInt ≤ 100 ∧ 0 ≤ d.toInt ∧ d.toInt < 10000 then (if 40 ≤ hn.toInt then (-1000003, hn, ho, hc, hp, hs) else (hn + 1, hn + 1, upd ho hn.toNatClampNeg o, upd hc hn.toNatClampNeg k, upd hp hn.toNatClampNeg q, upd hs hn.toNatClampNeg d)) else (-1000001, hn, ho, hc, hp, hs)

def sp_crate (cn : Int32) (fo wo : Nat → Int32) (o w : Int32) : Int32 × Int32 × (Nat → Int32) × (Nat → Int32) := if 0 ≤ o.toInt ∧ o.toInt < 20 ∧ 1 ≤ w.toInt ∧ w.toInt ≤ 100000 then (if 12 ≤ cn.toInt then (-1000003, cn, fo, wo) else (cn + 1 - 1, cn + 1, upd fo cn.toNatClampNeg o, upd wo cn.toNatClampNeg w)) else (-1000001, cn, fo, wo)

def sp_pledge (gn : Int32) (gk gs gd ge : Nat → Int32) (cn k x q a b : Int32) : Int32 × Int32 × (Nat → Int32) × (Nat → Int32) × (Nat → Int32) × (Nat → Int32) := if 0 ≤ k.toInt ∧ k.toInt < cn.toInt ∧ 0 ≤ x.toInt ∧ x.toInt < 10 ∧ 1 ≤ q.toInt ∧ q.toInt ≤ 100000 ∧ 0 ≤ a.toInt ∧ b.toInt < 10000 ∧ a.toInt ≤ b.toInt then (if 40 ≤ gn.toInt then (-1000003, gn, gk, gs, gd, ge) else (gn + 1 - 1, gn + 1, upd gk gn.toNatClampNeg k, upd gs gn.toNatClampNeg q, upd gd gn.toNatClampNeg a, upd ge gn.toNatClampNeg b)) else (-1000001, gn, gk, gs, gd, ge)

def sp_act (an : Int32) (ak ah ay az : Nat → Int32) (cn k w d n : Int32) : Int32 × Int32 × (Nat → Int32) × (Nat → Int32) × (Nat → Int32) × (Nat → Int32) := if 0 ≤ k.toInt ∧ k.toInt < cn.toInt ∧ 0 ≤ w.toInt ∧ w.toInt < 4 ∧ 0 ≤ d.toInt ∧ d.toInt < 10000 ∧ 0 ≤ n.toInt ∧ n.toInt ≤ 999 then (if 60 ≤ an.toInt then (-1000003, an, ak, ah, ay, az) else (an + 1, an + 1, upd ak an.toNatClampNeg k, upd ah an.toNatClampNeg w, upd ay an.toNatClampNeg d, upd az an.toNatClampNeg n)) else (-1000001, an, ak, ah, ay, az)

def sp_opened (un : Int32) (uk uy uw um : Nat → Int32) (cn k d w q : Int32) : Int32 × Int32 × (Nat → Int32) × (Nat → Int32) × (Nat → Int32) × (Nat → Int32) := if 0 ≤ k.toInt ∧ k.toInt < cn.toInt ∧ 0 ≤ d.toInt ∧ d.toInt < 10000 ∧ 1 ≤ w.toInt ∧ w.toInt ≤ 100000 ∧ 0 ≤ q.toInt ∧ q.toInt ≤ 255 then (if 60 ≤ un.toInt then (-1000003, un, uk, uy, uw, um) else (un + 1, un + 1, upd uk un.toNatClampNeg k, upd uy un.toNatClampNeg d, upd uw un.toNatClampNeg w, upd um un.toNatClampNeg q)) else (-1000001, un, uk, uy, uw, um)

def sp_list (lc : Int32) (lp la lb : Nat → Int32) (q a b : Int32) : Int32 × Int32 × (Nat → Int32) × (Nat → Int32) × (Nat → Int32) := if 0 ≤ q.toInt ∧ q.toInt < 10 ∧ 0 ≤ a.toInt ∧ b.toInt < 10000 ∧ a.toInt ≤ b.toInt then (if 20 ≤ lc.toInt then (-1000003, lc, lp, la, lb) else (lc + 1, lc + 1, upd lp lc.toNatClampNeg q, upd la lc.toNatClampNeg a, upd lb lc.toNatClampNeg b)) else (-1000001, lc, lp, la, lb)


/-- the papers' order names papers -/
def okO (pn : Int32) (pr : Nat → Int32) : Prop := ∀ j : Nat, (j : Int) < pn.toInt → 0 ≤ (pr j).toInt ∧ (pr j).toInt < pn.toInt
/-- .. but for the place at -/
def okP (pn a : Int32) (pr : Nat → Int32) : Prop := ∀ j : Nat, (j : Int) ≤ pn.toInt → ¬ (j : Int) = a.toInt → 0 ≤ (pr j).toInt ∧ (pr j).toInt < pn.toInt
theorem okO_at {pn : Int32} {pr : Nat → Int32} (h : okO pn pr) {v i : Int32} (e : v = pr i.toNatClampNeg) (h0 : 0 ≤ i.toInt) (h1 : i.toInt < pn.toInt) : 0 ≤ v.toInt ∧ v.toInt < pn.toInt := by
  have := i_cl h0
  rw [e]
  exact h _ (by omega)
theorem okP_at {pn a : Int32} {pr : Nat → Int32} (h : okP pn a pr) {v i : Int32} (e : v = pr i.toNatClampNeg) (h0 : 0 ≤ i.toInt) (h1 : i.toInt ≤ pn.toInt) (h2 : ¬ i.toInt = a.toInt) : 0 ≤ v.toInt ∧ v.toInt < pn.toInt := by
  have := i_cl h0
  rw [e]
  exact h _ (by omega) (by omega)
theorem okP_0 {pn : Int32} {pr : Nat → Int32} (h : okO pn pr) : okP pn pn pr := fun j h1 h2 => h j (by omega)
theorem okP_step {pn a b v w : Int32} {f : Nat → Int32} (h : okP pn a f) (hv : v = f w.toNatClampNeg) (hw : w.toInt = a.toInt - 1) (hb : b.toInt = a.toInt - 1) (h0 : 0 < a.toInt) (h1 : a.toInt ≤ pn.toInt) : okP pn b (upd f a.toNatClampNeg v) := by
  have ca := i_cl (x := a) (by omega)
  have hv' := okP_at h hv (by omega) (by omega) (by omega)
  intro j h2 h3
  by_cases hj : j = a.toNatClampNeg
  · subst hj; rw [upd_s]; exact hv'
  · rw [upd_n _ _ hj]; exact h j h2 (by omega)
theorem okP_end {pn a b : Int32} {f : Nat → Int32} (h : okP pn a f) (hb : b.toInt = pn.toInt + 1) (h0 : 0 ≤ a.toInt) (hp : 0 ≤ pn.toInt) : okO b (upd f a.toNatClampNeg pn) := by
  have ca := i_cl h0
  intro j h2
  by_cases hj : j = a.toNatClampNeg
  · subst hj; rw [upd_s]; omega
  · rw [upd_n _ _ hj]; have := h j (by omega) (by omega); omega


/-- one paper stands ahead of another -/
def lt3 (pd pe : Nat → Int32) (x y : Nat) : Prop := (pd x).toInt < (pd y).toInt ∨ ((pd x).toInt = (pd y).toInt ∧ ((pe x).toInt < (pe y).toInt ∨ ((pe x).toInt = (pe y).toInt ∧ x < y)))
/-- the order is by the days, and names every paper -/
def okW (pn : Int32) (pr pd pe : Nat → Int32) : Prop := (∀ i j : Nat, i < j → (j : Int) < pn.toInt → lt3 pd pe (pr i).toNatClampNeg (pr j).toNatClampNeg) ∧ (∀ x : Nat, (x : Int) < pn.toInt → ∃ j : Nat, (j : Int) < pn.toInt ∧ (pr j).toNatClampNeg = x)
/-- the places from a on have gone one up, and what stood there is P -/
def shf (pn a : Int32) (pr f : Nat → Int32) (P : Nat → Prop) : Prop := (∀ j : Nat, (j : Int) < a.toInt → f j = pr j) ∧ (∀ j : Nat, a.toInt ≤ (j : Int) → (j : Int) < pn.toInt → f (j + 1) = pr j) ∧ (∀ j : Nat, a.toInt ≤ (j : Int) → (j : Int) < pn.toInt → P j)
theorem shf_0 {pn : Int32} {pr : Nat → Int32} {P : Nat → Prop} : shf pn pn pr pr P := ⟨fun _ _ => rfl, fun j h1 h2 => absurd h2 (by omega), fun j h1 h2 => absurd h2 (by omega)⟩
theorem shf_step {pn a b v w : Int32} {pr f : Nat → Int32} {P : Nat → Prop} (h : shf pn a pr f P) (hv : v = f w.toNatClampNeg) (hw : w.toInt = a.toInt - 1) (hb : b.toInt = a.toInt - 1) (h0 : 0 < a.toInt) (h1 : a.toInt ≤ pn.toInt) (hP : v = pr w.toNatClampNeg → P w.toNatClampNeg) : shf pn b pr (upd f a.toNatClampNeg v) P := by
  have ca := i_cl (x := a) (by omega)
  have cw := i_cl (x := w) (by omega)
  have e := h.1 w.toNatClampNeg (by omega)
  refine ⟨fun j hj => ?_, fun j h2 h3 => ?_, fun j h2 h3 => ?_⟩
  · rw [upd_n _ _ (by omega)]; exact h.1 j (by omega)
  · by_cases ej : j + 1 = a.toNatClampNeg
    · rw [ej, upd_s, hv, e]; congr 1; omega
    · rw [upd_n _ _ ej]; exact h.2.1 j (by omega) h3
  · by_cases ej : j + 1 = a.toNatClampNeg
    · rw [show j = w.toNatClampNeg by omega]; exact hP (hv.trans e)
    · exact h.2.2 j (by omega) h3
theorem okW_ins {pn a b xa xb : Int32} {pr f pd pe : Nat → Int32} {P : Nat → Prop} (ho : okO pn pr) (h : shf pn a pr f P) (hb : b.toInt = pn.toInt + 1) (h0 : 0 ≤ a.toInt) (h1 : a.toInt ≤ pn.toInt) (hp : 0 ≤ pn.toInt) (hP : ∀ j, P j → lt3 (upd pd pn.toNatClampNeg xa) (upd pe pn.toNatClampNeg xb) pn.toNatClampNeg (pr j).toNatClampNeg) (he : ∀ j : Nat, (j : Int) + 1 = a.toInt → lt3 (upd pd pn.toNatClampNeg xa) (upd pe pn.toNatClampNeg xb) (pr j).toNatClampNeg pn.toNatClampNeg) (hq : okW pn pr pd pe) : okW b (upd f a.toNatClampNeg pn) (upd pd pn.toNatClampNeg xa) (upd pe pn.toNatClampNeg xb) := by
  have ca := i_cl h0
  have cp := i_cl hp
  obtain ⟨s1, s2, s3⟩ := h
  have lo : ∀ j : Nat, (j : Int) < pn.toInt → (pr j).toNatClampNeg < pn.toNatClampNeg := fun j hj => by
    have := ho j hj
    have := i_cl this.1
    omega
  have old : ∀ i j : Nat, i < j → (j : Int) < pn.toInt → lt3 (upd pd pn.toNatClampNeg xa) (upd pe pn.toNatClampNeg xb) (pr i).toNatClampNeg (pr j).toNatClampNeg := fun i j hij hj => by
    have l1 := lo i (by omega)
    have l2 := lo j hj
    have := hq.1 i j hij hj
    unfold lt3 at this ⊢
    rw [upd_n _ _ (by omega), upd_n _ _ (by omega), upd_n _ _ (by omega), upd_n _ _ (by omega)]
    exact this
  have lo2 : ∀ i : Nat, (i : Int) < a.toInt → lt3 (upd pd pn.toNatClampNeg xa) (upd pe pn.toNatClampNeg xb) (pr i).toNatClampNeg pn.toNatClampNeg := fun i hi => by
    have e9 := he (a.toNatClampNeg - 1) (by omega)
    by_cases e : i = a.toNatClampNeg - 1
    · rw [e]; exact e9
    · have o9 := old i (a.toNatClampNeg - 1) (by omega) (by omega)
      unfold lt3 at *
      omega
  refine ⟨fun i j hij hj => ?_, fun x hx => ?_⟩
  · by_cases ei : i = a.toNatClampNeg
    · subst ei
      rw [upd_s, upd_n _ _ (by omega)]
      obtain ⟨j', rfl⟩ : ∃ j', j = j' + 1 := ⟨j - 1, by omega⟩
      rw [s2 j' (by omega) (by omega)]
      exact hP j' (s3 j' (by omega) (by omega))
    · rw [upd_n _ _ ei]
      by_cases ej : j = a.toNatClampNeg
      · subst ej
        rw [upd_s, s1 i (by omega)]
        exact lo2 i (by omega)
      · rw [upd_n _ _ ej]
        by_cases ji : (j : Int) < a.toInt
        · rw [s1 i (by omega), s1 j ji]
          exact old i j hij (by omega)
        · obtain ⟨j', rfl⟩ : ∃ j', j = j' + 1 := ⟨j - 1, by omega⟩
          rw [s2 j' (by omega) (by omega)]
          by_cases ii : (i : Int) < a.toInt
          · rw [s1 i ii]
            exact old i j' (by omega) (by omega)
          · obtain ⟨i', rfl⟩ : ∃ i', i = i' + 1 := ⟨i - 1, by omega⟩
            rw [s2 i' (by omega) (by omega)]
            exact old i' j' (by omega) (by omega)
  · by_cases ex : x = pn.toNatClampNeg
    · exact ⟨a.toNatClampNeg, by omega, by rw [upd_s, ex]⟩
    · obtain ⟨j, hj, e⟩ := hq.2 x (by omega)
      by_cases ja : (j : Int) < a.toInt
      · exact ⟨j, by omega, by rw [upd_n _ _ (by omega), s1 j ja, e]⟩
      · exact ⟨j + 1, by omega, by rw [upd_n _ _ (by omega), s2 j (by omega) hj, e]⟩
/-- the owner by the papers in their order -/
def owV (pk pf po pd pe pr : Nat → Int32) (k d n x : Int32) : Nat → Int32
  | 0 => x
  | m + 1 => if (pk (pr m).toNatClampNeg).toInt = k.toInt ∧ (pe (pr m).toNatClampNeg).toInt ≤ n.toInt ∧ (pd (pr m).toNatClampNeg).toInt ≤ d.toInt ∧ (pf (pr m).toNatClampNeg).toInt = (owV pk pf po pd pe pr k d n x m).toInt then po (pr m).toNatClampNeg else owV pk pf po pd pe pr k d n x m
theorem owV_s (pk pf po pd pe pr : Nat → Int32) (k d n x : Int32) (m : Nat) : owV pk pf po pd pe pr k d n x (m + 1) = if (pk (pr m).toNatClampNeg).toInt = k.toInt ∧ (pe (pr m).toNatClampNeg).toInt ≤ n.toInt ∧ (pd (pr m).toNatClampNeg).toInt ≤ d.toInt ∧ (pf (pr m).toNatClampNeg).toInt = (owV pk pf po pd pe pr k d n x m).toInt then po (pr m).toNatClampNeg else owV pk pf po pd pe pr k d n x m := rfl
/-- the owner by all papers known, and how many are not good -/
def ngV (pk pf po pe pr : Nat → Int32) (k n x : Int32) : Nat → Int32 × Int32
  | 0 => (x, 0)
  | m + 1 => if (pk (pr m).toNatClampNeg).toInt = k.toInt ∧ (pe (pr m).toNatClampNeg).toInt ≤ n.toInt then (if (pf (pr m).toNatClampNeg).toInt = (ngV pk pf po pe pr k n x m).1.toInt then (po (pr m).toNatClampNeg, (ngV pk pf po pe pr k n x m).2) else ((ngV pk pf po pe pr k n x m).1, (ngV pk pf po pe pr k n x m).2 + 1)) else ngV pk pf po pe pr k n x m
theorem ngV_s (pk pf po pe pr : Nat → Int32) (k n x : Int32) (m : Nat) : ngV pk pf po pe pr k n x (m + 1) = if (pk (pr m).toNatClampNeg).toInt = k.toInt ∧ (pe (pr m).toNatClampNeg).toInt ≤ n.toInt then (if (pf (pr m).toNatClampNeg).toInt = (ngV pk pf po pe pr k n x m).1.toInt then (po (pr m).toNatClampNeg, (ngV pk pf po pe pr k n x m).2) else ((ngV pk pf po pe pr k n x m).1, (ngV pk pf po pe pr k n x m).2 + 1)) else ngV pk pf po pe pr k n x m := rfl
def sp_owner (cn pn : Int32) (fo pk pf po pd pe pr : Nat → Int32) (k d n : Int32) : Int32 := if 0 ≤ k.toInt ∧ k.toInt < cn.toInt ∧ 0 ≤ d.toInt ∧ d.toInt < 10000 ∧ 0 ≤ n.toInt ∧ n.toInt < 10000 then owV pk pf po pd pe pr k d n (fo k.toNatClampNeg) pn.toNatClampNeg else -1000001
def sp_quarrels (cn pn : Int32) (fo pk pf po pe pr : Nat → Int32) (k n : Int32) : Int32 := if 0 ≤ k.toInt ∧ k.toInt < cn.toInt ∧ 0 ≤ n.toInt ∧ n.toInt < 10000 then (ngV pk pf po pe pr k n (fo k.toNatClampNeg) pn.toNatClampNeg).2 else -1000001

def sp_paper (pn : Int32) (pk pf po pd pe : Nat → Int32) (cn k x y a b : Int32) : Int32 × Int32 × (Nat → Int32) × (Nat → Int32) × (Nat → Int32) × (Nat → Int32) × (Nat → Int32) := if 0 ≤ k.toInt ∧ k.toInt < cn.toInt ∧ 0 ≤ x.toInt ∧ x.toInt < 20 ∧ 0 ≤ y.toInt ∧ y.toInt < 20 ∧ ¬ x.toInt = y.toInt ∧ 0 ≤ a.toInt ∧ b.toInt < 10000 ∧ a.toInt ≤ b.toInt then (if 40 ≤ pn.toInt then (-1000003, pn, pk, pf, po, pd, pe) else (pn + 1, pn + 1, upd pk pn.toNatClampNeg k, upd pf pn.toNatClampNeg x, upd po pn.toNatClampNeg y, upd pd pn.toNatClampNeg a, upd pe pn.toNatClampNeg b)) else (-1000001, pn, pk, pf, po, pd, pe)


/-- the first n places of the pledges' order name pledges -/
def okR (n m : Int32) (gr : Nat → Int32) : Prop := ∀ j : Nat, (j : Int) < n.toInt → 0 ≤ (gr j).toInt ∧ (gr j).toInt < m.toInt
def okQ (n a m : Int32) (gr : Nat → Int32) : Prop := ∀ j : Nat, (j : Int) ≤ n.toInt → ¬ (j : Int) = a.toInt → 0 ≤ (gr j).toInt ∧ (gr j).toInt < m.toInt
theorem okR_at {n m : Int32} {pr : Nat → Int32} (h : okR n m pr) {v i : Int32} (e : v = pr i.toNatClampNeg) (h0 : 0 ≤ i.toInt) (h1 : i.toInt < n.toInt) : 0 ≤ v.toInt ∧ v.toInt < m.toInt := by
  have := i_cl h0
  rw [e]
  exact h _ (by omega)
theorem okQ_at {n a m : Int32} {pr : Nat → Int32} (h : okQ n a m pr) {v i : Int32} (e : v = pr i.toNatClampNeg) (h0 : 0 ≤ i.toInt) (h1 : i.toInt ≤ n.toInt) (h2 : ¬ i.toInt = a.toInt) : 0 ≤ v.toInt ∧ v.toInt < m.toInt := by
  have := i_cl h0
  rw [e]
  exact h _ (by omega) (by omega)
theorem okQ_0 {n m : Int32} {pr : Nat → Int32} (h : okR n m pr) : okQ n n m pr := fun j h1 h2 => h j (by omega)
theorem okQ_step {n m a b v w : Int32} {f : Nat → Int32} (h : okQ n a m f) (hv : v = f w.toNatClampNeg) (hw : w.toInt = a.toInt - 1) (hb : b.toInt = a.toInt - 1) (h0 : 0 < a.toInt) (h1 : a.toInt ≤ n.toInt) : okQ n b m (upd f a.toNatClampNeg v) := by
  have ca := i_cl (x := a) (by omega)
  have hv' := okQ_at h hv (by omega) (by omega) (by omega)
  intro j h2 h3
  by_cases hj : j = a.toNatClampNeg
  · subst hj; rw [upd_s]; exact hv'
  · rw [upd_n _ _ hj]; exact h j h2 (by omega)
theorem okQ_end {n m a b x : Int32} {f : Nat → Int32} (h : okQ n a m f) (hb : b.toInt = n.toInt + 1) (h0 : 0 ≤ a.toInt) (hx : 0 ≤ x.toInt) (hx2 : x.toInt < m.toInt) : okR b m (upd f a.toNatClampNeg x) := by
  have ca := i_cl h0
  intro j h2
  by_cases hj : j = a.toNatClampNeg
  · subst hj; rw [upd_s]; omega
  · rw [upd_n _ _ hj]; exact h j (by omega) (by omega)


/-- what is owed on a crate, as known on a day -/
def suV (gk gs ge : Nat → Int32) (k d : Int32) : Nat → Int32
  | 0 => 0
  | n + 1 => if (gk n).toInt = k.toInt ∧ (ge n).toInt ≤ d.toInt then suV gk gs ge k d n + gs n else suV gk gs ge k d n
theorem suV_s (gk gs ge : Nat → Int32) (k d : Int32) (n : Nat) : suV gk gs ge k d (n + 1) = if (gk n).toInt = k.toInt ∧ (ge n).toInt ≤ d.toInt then suV gk gs ge k d n + gs n else suV gk gs ge k d n := rfl

theorem pbx {n gn b : Int32} {f : Nat → Int32} (h : ∀ b : Int32, b.toInt = n.toInt + 1 → okR b gn f) (hb : b.toInt = n.toInt + 1) : okR b gn f := h b hb


theorem i_nn {x : Int32} (h : 0 ≤ x.toInt) : ¬ x < 0 := fun h1 => by have := i_lt h1; have h0 : (0 : Int32).toInt = 0 := rfl; omega


/-- holdings' owners and companies are owners and companies -/
def okH (hn : Int32) (ho hc : Nat → Int32) : Prop := ∀ j : Nat, (j : Int) < hn.toInt → 0 ≤ (ho j).toInt ∧ (ho j).toInt < 20 ∧ 10 ≤ (hc j).toInt ∧ (hc j).toInt < 20
theorem okH_o {hn : Int32} {ho hc : Nat → Int32} (h : okH hn ho hc) {v i : Int32} (e : v = ho i.toNatClampNeg) (h0 : 0 ≤ i.toInt) (h1 : i.toInt < hn.toInt) : 0 ≤ v.toInt ∧ v.toInt < 20 := by
  have := i_cl h0
  rw [e]
  have := h _ (show ((i.toNatClampNeg : Nat) : Int) < hn.toInt by omega)
  omega
theorem okH_c {hn : Int32} {ho hc : Nat → Int32} (h : okH hn ho hc) {v i : Int32} (e : v = hc i.toNatClampNeg) (h0 : 0 ≤ i.toInt) (h1 : i.toInt < hn.toInt) : 10 ≤ v.toInt ∧ v.toInt < 20 := by
  have := i_cl h0
  rw [e]
  have := h _ (show ((i.toNatClampNeg : Nat) : Int) < hn.toInt by omega)
  omega


/-- the part that an owner has of a company on a day, and since when: the holdings told, one after the other -/
def pcV (ho hc hp hs : Nat → Int32) (d o c : Int32) : Nat → Int32 × Int32
  | 0 => (0, 0)
  | n + 1 => if (ho n).toInt = o.toInt ∧ (hc n).toInt = c.toInt ∧ (hs n).toInt ≤ d.toInt ∧ (pcV ho hc hp hs d o c n).2.toInt ≤ (hs n).toInt then (hp n, hs n) else pcV ho hc hp hs d o c n
theorem pcV_s (ho hc hp hs : Nat → Int32) (d o c : Int32) (n : Nat) : pcV ho hc hp hs d o c (n + 1) = if (ho n).toInt = o.toInt ∧ (hc n).toInt = c.toInt ∧ (hs n).toInt ≤ d.toInt ∧ (pcV ho hc hp hs d o c n).2.toInt ≤ (hs n).toInt then (hp n, hs n) else pcV ho hc hp hs d o c n := rfl
/-- the table of parts is laid out for the first n holdings -/
def pcOk (pt ps ho hc hp hs : Nat → Int32) (d : Int32) (n : Nat) : Prop := ∀ o c : Int32, 0 ≤ o.toInt → o.toInt < 20 → 10 ≤ c.toInt → c.toInt < 20 → (pt (o.toNatClampNeg * 10 + c.toNatClampNeg - 10), ps (o.toNatClampNeg * 10 + c.toNatClampNeg - 10)) = pcV ho hc hp hs d o c n
theorem pcOk_up {pt ps ho hc hp hs : Nat → Int32} {d x y : Int32} {n m a : Nat} (h : pcOk pt ps ho hc hp hs d n) (hm : m = n + 1) (r1 : 0 ≤ (ho n).toInt ∧ (ho n).toInt < 20) (r2 : 10 ≤ (hc n).toInt ∧ (hc n).toInt < 20) (ha : (a : Int) = (ho n).toInt * 10 + (hc n).toInt - 10) (c1 : (hs n).toInt ≤ d.toInt) (c2 : (ps a).toInt ≤ (hs n).toInt) (e1 : x = hp n) (e2 : y = hs n) : pcOk (upd pt a x) (upd ps a y) ho hc hp hs d m := by
  subst e1 e2 hm
  intro o c o1 o2 q1 q2
  have h9 := h o c o1 o2 q1 q2
  have k1 := i_cl o1
  have k2 := i_cl (x := c) (by omega)
  rw [pcV_s, ← h9]
  by_cases e : o.toNatClampNeg * 10 + c.toNatClampNeg - 10 = a
  · rw [e, upd_s, upd_s, if_pos]
    refine ⟨by omega, by omega, c1, c2⟩
  · rw [upd_n _ _ e, upd_n _ _ e, if_neg]
    rintro ⟨z1, z2, -⟩
    exact e (by omega)
theorem pcOk_no {pt ps ho hc hp hs : Nat → Int32} {d : Int32} {n m a : Nat} (h : pcOk pt ps ho hc hp hs d n) (hm : m = n + 1) (r1 : 0 ≤ (ho n).toInt ∧ (ho n).toInt < 20) (r2 : 10 ≤ (hc n).toInt ∧ (hc n).toInt < 20) (ha : (a : Int) = (ho n).toInt * 10 + (hc n).toInt - 10) (c1 : (hs n).toInt ≤ d.toInt → ¬ (ps a).toInt ≤ (hs n).toInt) : pcOk pt ps ho hc hp hs d m := by
  subst hm
  intro o c o1 o2 q1 q2
  have h9 := h o c o1 o2 q1 q2
  have k1 := i_cl o1
  have k2 := i_cl (x := c) (by omega)
  rw [pcV_s, ← h9, if_neg]
  rintro ⟨z1, z2, z3, z4⟩
  refine c1 z3 ?_
  rw [show a = o.toNatClampNeg * 10 + c.toNatClampNeg - 10 by omega]
  exact z4
def sp_percent (hn : Int32) (ho hc hp hs : Nat → Int32) (o k d : Int32) : Int32 := if 0 ≤ o.toInt ∧ o.toInt < 20 ∧ 10 ≤ k.toInt ∧ k.toInt < 20 ∧ ¬ o.toInt = k.toInt ∧ 0 ≤ d.toInt ∧ d.toInt < 10000 then (pcV ho hc hp hs d o k hn.toNatClampNeg).1 else -1000001


/-- a sum over the first n -/
def smC (g : Nat → Int) : Nat → Int
  | 0 => 0
  | n + 1 => smC g n + g n
theorem smC_s (g : Nat → Int) (n : Nat) : smC g (n + 1) = smC g n + g n := rfl
theorem smC_c {g h : Nat → Int} (n : Nat) (e : ∀ c, c < n → g c = h c) : smC g n = smC h n := by
  induction n with
  | zero => rfl
  | succ n ih => rw [smC_s, smC_s, ih (fun c hc => e c (by omega)), e n (by omega)]
theorem smC_0 {g : Nat → Int} (n : Nat) (e : ∀ c, c < n → g c = 0) : smC g n = 0 := by
  induction n with
  | zero => rfl
  | succ n ih => rw [smC_s, ih (fun c hc => e c (by omega)), e n (by omega)]; rfl
theorem smC_tail {g : Nat → Int} {c : Nat} (n : Nat) (h : c ≤ n) (e : ∀ x, c ≤ x → x < n → g x = 0) : smC g n = smC g c := by
  induction n with
  | zero => rw [show c = 0 by omega]
  | succ n ih =>
    by_cases q : c = n + 1
    · rw [q]
    · rw [smC_s, ih (by omega) (fun x h1 h2 => e x h1 (by omega)), e n (by omega) (by omega)]
      omega
theorem smC_bd {g : Nat → Int} {B : Int} (n : Nat) (e : ∀ c, c < n → 0 ≤ g c ∧ g c ≤ B) : 0 ≤ smC g n ∧ smC g n ≤ n * B := by
  induction n with
  | zero => exact ⟨Int.le_refl _, by show (0 : Int) ≤ ((0 : Nat) : Int) * B; rw [Int.natCast_zero, Int.zero_mul]; exact Int.le_refl _⟩
  | succ n ih =>
    have h1 := ih (fun c hc => e c (by omega))
    have h2 := e n (by omega)
    rw [smC_s, Int.natCast_succ, Int.add_mul, Int.one_mul]
    omega
theorem smC_mono {g : Nat → Int} {a b : Nat} (h : a ≤ b) (e : ∀ c, a ≤ c → c < b → 0 ≤ g c) : smC g a ≤ smC g b := by
  induction b with
  | zero => rw [show a = 0 by omega]; exact Int.le_refl _
  | succ b ih =>
    by_cases q : a = b + 1
    · rw [q]; exact Int.le_refl _
    · have h1 := ih (by omega) (fun c h1 h2 => e c h1 (by omega))
      have h2 := e b (by omega) (by omega)
      rw [smC_s]
      omega
/-- what comes to company t over all rows of owners from o on: parts p, value v, companies that are free -/
def alG (p : Nat → Nat → Int) (t : Nat) : Nat → Nat → Int → (Nat → Bool) → Int
  | 0 => fun _ _ _ => 0
  | n + 1 => fun o v fr => smC (fun c => if 0 < p o c ∧ fr c = true then (if c = t then v * p o c / 100 else alG p t n (10 + c) (v * p o c / 100) (fun x => fr x && !decide (x = c))) else 0) 10
/-- a place's part of it -/
def alT (p : Nat → Nat → Int) (t n o : Nat) (v : Int) (fr : Nat → Bool) (c : Nat) : Int := if 0 < p o c ∧ fr c = true then (if c = t then v * p o c / 100 else alG p t n (10 + c) (v * p o c / 100) (fun x => fr x && !decide (x = c))) else 0
theorem alG_s (p : Nat → Nat → Int) (t n o : Nat) (v : Int) (fr : Nat → Bool) : alG p t (n + 1) o v fr = smC (alT p t n o v fr) 10 := rfl
theorem alG_z (p : Nat → Nat → Int) (t o : Nat) (v : Int) (fr : Nat → Bool) : alG p t 0 o v fr = 0 := rfl
def okp (p : Nat → Nat → Int) : Prop := ∀ o c, o < 20 → c < 10 → 0 ≤ p o c ∧ p o c ≤ 100
theorem pd_bd {v q : Int} (h0 : 0 ≤ v) (h1 : 0 ≤ q) (h2 : q ≤ 100) : 0 ≤ v * q / 100 ∧ v * q / 100 ≤ v := by
  have h3 : 0 ≤ v * q := Int.mul_nonneg h0 h1
  have h4 : v * q ≤ v * 100 := Int.mul_le_mul_of_nonneg_left h2 h0
  omega
theorem alT_0 {p : Nat → Nat → Int} {t n o c : Nat} {v : Int} {fr : Nat → Bool} (h : ¬ (0 < p o c ∧ fr c = true)) : alT p t n o v fr c = 0 := by
  unfold alT
  rw [if_neg h]
theorem alT_t {p : Nat → Nat → Int} {t n o c : Nat} {v : Int} {fr : Nat → Bool} (h : 0 < p o c ∧ fr c = true) (e : c = t) : alT p t n o v fr c = v * p o c / 100 := by
  unfold alT
  rw [if_pos h, if_pos e]
theorem alT_n {p : Nat → Nat → Int} {t n o c : Nat} {v : Int} {fr : Nat → Bool} (h : 0 < p o c ∧ fr c = true) (e : ¬ c = t) : alT p t n o v fr c = alG p t n (10 + c) (v * p o c / 100) (fun x => fr x && !decide (x = c)) := by
  unfold alT
  rw [if_pos h, if_neg e]
theorem alG_v0 (p : Nat → Nat → Int) (t n : Nat) : ∀ (o : Nat) (fr : Nat → Bool), alG p t n o 0 fr = 0 := by
  induction n with
  | zero => exact fun _ _ => rfl
  | succ n ih =>
    intro o fr
    rw [alG_s]
    refine smC_0 10 (fun c hc => ?_)
    by_cases h : 0 < p o c ∧ fr c = true
    · by_cases e : c = t
      · rw [alT_t h e, Int.zero_mul]; rfl
      · rw [alT_n h e, Int.zero_mul]
        exact ih _ _
    · exact alT_0 h
theorem alG_bd {p : Nat → Nat → Int} (hp : okp p) (t n : Nat) : ∀ (o : Nat) (v : Int) (fr : Nat → Bool), o < 20 → 0 ≤ v → 0 ≤ alG p t n o v fr ∧ alG p t n o v fr ≤ 10 ^ n * v := by
  induction n with
  | zero =>
    intro o v fr ho hv
    rw [alG_z, Int.pow_zero, Int.one_mul]
    exact ⟨Int.le_refl _, hv⟩
  | succ n ih =>
    intro o v fr ho hv
    have hpw : (1 : Int) ≤ 10 ^ n := Int.pow_pos (by decide)
    have hb : ∀ c, c < 10 → 0 ≤ alT p t n o v fr c ∧ alT p t n o v fr c ≤ 10 ^ n * v := by
      intro c hc
      have hq := hp o c ho hc
      have hd := pd_bd (v := v) hv hq.1 hq.2
      have hle : v ≤ 10 ^ n * v := by
        have h9 := Int.mul_le_mul_of_nonneg_right hpw hv
        rw [Int.one_mul] at h9
        exact h9
      by_cases h : 0 < p o c ∧ fr c = true
      · by_cases e : c = t
        · rw [alT_t h e]; omega
        · rw [alT_n h e]
          have h8 := ih (10 + c) (v * p o c / 100) (fun x => fr x && !decide (x = c)) (by omega) hd.1
          have h7 : 10 ^ n * (v * p o c / 100) ≤ 10 ^ n * v := Int.mul_le_mul_of_nonneg_left hd.2 (by omega)
          omega
      · rw [alT_0 h]; omega
    have hs := smC_bd 10 hb
    rw [alG_s, Int.pow_succ, Int.mul_comm (10 ^ n) 10, Int.mul_assoc]
    exact hs
theorem alT_bd {p : Nat → Nat → Int} (hp : okp p) {t n o c : Nat} {v : Int} {fr : Nat → Bool} (ho : o < 20) (hc : c < 10) (hv : 0 ≤ v) : 0 ≤ alT p t n o v fr c ∧ alT p t n o v fr c ≤ 10 ^ n * v := by
  have hpw : (1 : Int) ≤ 10 ^ n := Int.pow_pos (by decide)
  have hq := hp o c ho hc
  have hd := pd_bd (v := v) hv hq.1 hq.2
  have hle : v ≤ 10 ^ n * v := by
    have h9 := Int.mul_le_mul_of_nonneg_right hpw hv
    rw [Int.one_mul] at h9
    exact h9
  by_cases h : 0 < p o c ∧ fr c = true
  · by_cases e : c = t
    · rw [alT_t h e]; omega
    · rw [alT_n h e]
      have h8 := alG_bd hp t n (10 + c) (v * p o c / 100) (fun x => fr x && !decide (x = c)) (by omega) hd.1
      have h7 : 10 ^ n * (v * p o c / 100) ≤ 10 ^ n * v := Int.mul_le_mul_of_nonneg_left hd.2 (by omega)
      omega
  · rw [alT_0 h]; omega
/-- a bound that fits into a long -/
theorem big_bd {n : Nat} {v : Int} (hn : n ≤ 11) (h0 : 0 ≤ v) (h1 : v ≤ 1000000) : 10 ^ n * v ≤ 100000000000000000 := by
  have h2 : (10 : Int) ^ n ≤ 100000000000 := (by decide : ∀ k, k < 12 → (10 : Int) ^ k ≤ 100000000000) n (by omega)
  have h3 : 10 ^ n * v ≤ 100000000000 * v := Int.mul_le_mul_of_nonneg_right h2 h0
  omega
theorem smT_bd {p : Nat → Nat → Int} (hp : okp p) {t n o c : Nat} {v : Int} {fr : Nat → Bool} (ho : o < 20) (hc : c ≤ 10) (hn : n ≤ 10) (hv : 0 ≤ v) (hv1 : v ≤ 1000000) : 0 ≤ smC (alT p t n o v fr) c ∧ smC (alT p t n o v fr) c ≤ 100000000000000000 := by
  have h1 : smC (alT p t n o v fr) c ≤ smC (alT p t n o v fr) 10 := smC_mono hc (fun x _ hx => (alT_bd hp ho hx hv).1)
  have h2 := (smC_bd (B := 10 ^ n * v) c (fun x hx => alT_bd hp ho (by omega) hv) : 0 ≤ smC (alT p t n o v fr) c ∧ _).1
  have h3 := (alG_bd hp t (n + 1) o v fr ho hv).2
  have h4 := big_bd (n := n + 1) (by omega) hv hv1
  rw [alG_s] at h3
  omega
/-- other tables, other ways to tell what is free -/
theorem alG_c {p p' : Nat → Nat → Int} (hp : ∀ o c, o < 20 → c < 10 → p o c = p' o c) (t n : Nat) : ∀ (o : Nat) (v : Int) (fr fr' : Nat → Bool), o < 20 → (∀ x, x < 10 → fr x = fr' x) → alG p t n o v fr = alG p' t n o v fr' := by
  induction n with
  | zero => exact fun _ _ _ _ _ _ => rfl
  | succ n ih =>
    intro o v fr fr' ho hf
    rw [alG_s, alG_s]
    refine smC_c 10 (fun c hc => ?_)
    have e1 := hp o c ho hc
    have e2 := hf c hc
    by_cases h : 0 < p o c ∧ fr c = true
    · have h' : 0 < p' o c ∧ fr' c = true := by rw [← e1, ← e2]; exact h
      by_cases e : c = t
      · rw [alT_t h e, alT_t h' e, e1]
      · rw [alT_n h e, alT_n h' e, e1]
        exact ih _ _ _ _ (by omega) (fun x hx => by rw [hf x hx])
    · have h' : ¬ (0 < p' o c ∧ fr' c = true) := by rw [← e1, ← e2]; exact h
      rw [alT_0 h, alT_0 h']
theorem al_dead {p : Nat → Nat → Int} {t : Nat} {lead : Nat → Bool} (hcl : ∀ c c', c < 10 → c' < 10 → 0 < p (10 + c) c' → lead c' = true → lead c = true) (ht : lead t = true) (n : Nat) : ∀ (c : Nat) (v : Int) (fr : Nat → Bool), c < 10 → lead c = false → alG p t n (10 + c) v fr = 0 := by
  induction n with
  | zero => exact fun _ _ _ _ _ => rfl
  | succ n ih =>
    intro c v fr hc hl
    rw [alG_s]
    refine smC_0 10 (fun c' hc' => ?_)
    by_cases h : 0 < p (10 + c) c' ∧ fr c' = true
    · have hl' : lead c' = false := by
        cases q : lead c' with
        | false => rfl
        | true =>
          have h9 := hcl c c' hc hc' h.1 q
          rw [hl] at h9
          cases h9
      have hne : ¬ c' = t := fun e => by
        rw [e, ht] at hl'
        cases hl'
      rw [alT_n h hne]
      exact ih c' _ _ hc' hl'
    · exact alT_0 h
/-- companies from which t can't be reached may be left out -/
theorem al_prune {p : Nat → Nat → Int} {t : Nat} {lead : Nat → Bool} (hcl : ∀ c c', c < 10 → c' < 10 → 0 < p (10 + c) c' → lead c' = true → lead c = true) (ht : lead t = true) (n : Nat) : ∀ (o : Nat) (v : Int) (fr : Nat → Bool), alG p t n o v fr = alG p t n o v (fun x => fr x && lead x) := by
  induction n with
  | zero => exact fun _ _ _ => rfl
  | succ n ih =>
    intro o v fr
    rw [alG_s, alG_s]
    refine smC_c 10 (fun c hc => ?_)
    by_cases h : 0 < p o c ∧ fr c = true
    · cases q : lead c with
      | true =>
        have h' : 0 < p o c ∧ (fr c && lead c) = true := ⟨h.1, by rw [h.2, q]; rfl⟩
        by_cases e : c = t
        · rw [alT_t h e, alT_t h' e]
        · rw [alT_n h e, alT_n h' e, ih]
          congr 1
          funext x
          cases fr x <;> cases lead x <;> cases decide (x = c) <;> rfl
      | false =>
        have hne : ¬ c = t := fun e => by
          rw [e, ht] at q
          cases q
        rw [alT_n h hne, al_dead hcl ht n c _ _ hc q]
        exact (alT_0 (fun z => by rw [q, Bool.and_false] at z; exact absurd z.2 (by decide))).symm
    · rw [alT_0 h]
      refine (alT_0 (fun z => h ⟨z.1, ?_⟩)).symm
      have z2 := z.2
      rw [Bool.and_eq_true] at z2
      exact z2.1
/-- who reaches whom, row by row -/
def wrV (B : Nat → Nat → Bool) : Nat → Nat → Nat → Bool
  | 0 => fun c d => B c d
  | k + 1 => fun c d => wrV B k c d || (wrV B k c k && wrV B k k d)
theorem wrV_s (B : Nat → Nat → Bool) (k c d : Nat) : wrV B (k + 1) c d = (wrV B k c d || (wrV B k c k && wrV B k k d)) := rfl
theorem wr_le {B : Nat → Nat → Bool} (k c d : Nat) (h : B c d = true) : wrV B k c d = true := by
  induction k with
  | zero => exact h
  | succ k ih => rw [wrV_s, ih]; rfl
theorem wr_trans {B : Nat → Nat → Bool} (k : Nat) : ∀ c j d, j < k → wrV B k c j = true → wrV B k j d = true → wrV B k c d = true := by
  induction k with
  | zero => exact fun c j d h => absurd h (by omega)
  | succ k ih =>
    intro c j d hj h1 h2
    rw [wrV_s, Bool.or_eq_true, Bool.and_eq_true] at h1 h2 ⊢
    by_cases e : j = k
    · rw [e] at h1 h2
      have a1 : wrV B k c k = true := by rcases h1 with h1 | h1; exact h1; exact h1.1
      have a2 : wrV B k k d = true := by rcases h2 with h2 | h2; exact h2; exact h2.2
      exact Or.inr ⟨a1, a2⟩
    · have hj' : j < k := by omega
      rcases h1 with h1 | ⟨h1, h1'⟩
      · rcases h2 with h2 | ⟨h2, h2'⟩
        · exact Or.inl (ih c j d hj' h1 h2)
        · exact Or.inr ⟨ih c j k hj' h1 h2, h2'⟩
      · rcases h2 with h2 | ⟨h2, h2'⟩
        · exact Or.inr ⟨h1, ih k j d hj' h1' h2⟩
        · exact Or.inr ⟨h1, h2'⟩
theorem wr_least {B : Nat → Nat → Bool} {Q : Nat → Nat → Prop} (hB : ∀ c d, B c d = true → Q c d) (hT : ∀ c j d, Q c j → Q j d → Q c d) (k : Nat) : ∀ c d, wrV B k c d = true → Q c d := by
  induction k with
  | zero => exact hB
  | succ k ih =>
    intro c d h
    rw [wrV_s, Bool.or_eq_true, Bool.and_eq_true] at h
    rcases h with h | h
    · exact ih c d h
    · exact hT c k d (ih c k h.1) (ih k d h.2)
/-- the company x stands on the path, from place 1 to i -/
def onP (mp : Nat → Int32) : Nat → Nat → Bool
  | 0 => fun _ => false
  | i + 1 => fun x => onP mp i x || decide ((mp (i + 1)).toInt = (x : Int) + 10)
theorem onP_s (mp : Nat → Int32) (i x : Nat) : onP mp (i + 1) x = (onP mp i x || decide ((mp (i + 1)).toInt = (x : Int) + 10)) := rfl
theorem onP_iff (mp : Nat → Int32) (i x : Nat) : onP mp i x = true ↔ ∃ j, 1 ≤ j ∧ j ≤ i ∧ (mp j).toInt = (x : Int) + 10 := by
  induction i with
  | zero => exact ⟨fun h => absurd h (by show ¬ (false = true); decide), fun h => by obtain ⟨j, h1, h2, -⟩ := h; omega⟩
  | succ i ih =>
    rw [onP_s, Bool.or_eq_true, ih, decide_eq_true_iff]
    constructor
    · rintro (⟨j, h1, h2, h3⟩ | h)
      · exact ⟨j, h1, by omega, h3⟩
      · exact ⟨i + 1, by omega, by omega, h⟩
    · rintro ⟨j, h1, h2, h3⟩
      by_cases e : j = i + 1
      · rw [e] at h3; exact Or.inr h3
      · exact Or.inl ⟨j, h1, by omega, h3⟩
theorem onP_same {mp mp' : Nat → Int32} (i : Nat) (h : ∀ j, j ≤ i → mp' j = mp j) (x : Nat) : onP mp' i x = onP mp i x := by
  induction i with
  | zero => rfl
  | succ i ih => rw [onP_s, onP_s, ih (fun j hj => h j (by omega)), h (i + 1) (by omega)]
/-- the parts of one place of the path -/
def gL (p : Nat → Nat → Int) (t : Nat) (mp : Nat → Int32) (mf : Nat → Int64) (i : Nat) : Nat → Int := alT p t (10 - i) (mp i).toNatClampNeg (mf i).toInt (fun x => !onP mp i x)
/-- what is still to come of the places ahead of n -/
def reS (p : Nat → Nat → Int) (t : Nat) (mp mt : Nat → Int32) (mf : Nat → Int64) : Nat → Int
  | 0 => 0
  | i + 1 => reS p t mp mt mf i + (smC (gL p t mp mf i) 10 - smC (gL p t mp mf i) ((mt i).toInt + 1).toNat)
theorem reS_s (p : Nat → Nat → Int) (t : Nat) (mp mt : Nat → Int32) (mf : Nat → Int64) (i : Nat) : reS p t mp mt mf (i + 1) = reS p t mp mt mf i + (smC (gL p t mp mf i) 10 - smC (gL p t mp mf i) ((mt i).toInt + 1).toNat) := rfl
theorem gL_same {p : Nat → Nat → Int} {t : Nat} {mp mp' : Nat → Int32} {mf mf' : Nat → Int64} {i : Nat} (h1 : ∀ j, j ≤ i → mp' j = mp j) (h3 : mf' i = mf i) : gL p t mp' mf' i = gL p t mp mf i := by
  unfold gL
  rw [h1 i (Nat.le_refl _), h3, show (fun x => !onP mp' i x) = (fun x => !onP mp i x) from funext (fun x => by rw [onP_same i h1 x])]
theorem reS_same {p : Nat → Nat → Int} {t : Nat} {mp mp' mt mt' : Nat → Int32} {mf mf' : Nat → Int64} (n : Nat) (h1 : ∀ j, j < n → mp' j = mp j) (h2 : ∀ j, j < n → mt' j = mt j) (h3 : ∀ j, j < n → mf' j = mf j) : reS p t mp' mt' mf' n = reS p t mp mt mf n := by
  induction n with
  | zero => rfl
  | succ n ih => rw [reS_s, reS_s, ih (fun j hj => h1 j (by omega)) (fun j hj => h2 j (by omega)) (fun j hj => h3 j (by omega)), gL_same (fun j hj => h1 j (by omega)) (h3 n (by omega)), h2 n (by omega)]
theorem reS_nn {p : Nat → Nat → Int} (hp : okp p) {t : Nat} {mp mt : Nat → Int32} {mf : Nat → Int64} (n : Nat) (h : ∀ i, i < n → (mp i).toNatClampNeg < 20 ∧ 0 ≤ (mf i).toInt ∧ (mt i).toInt ≤ 9) : 0 ≤ reS p t mp mt mf n := by
  induction n with
  | zero => exact Int.le_refl _
  | succ n ih =>
    have h1 := ih (fun i hi => h i (by omega))
    obtain ⟨a1, a2, a3⟩ := h n (by omega)
    have h2 : smC (gL p t mp mf n) ((mt n).toInt + 1).toNat ≤ smC (gL p t mp mf n) 10 := smC_mono (by omega) (fun c _ hc => (alT_bd hp a1 hc a2).1)
    rw [reS_s]
    omega
/-- the search: what was found, and what is to come -/
def dfI (p : Nat → Nat → Int) (t q : Nat) (sum : Int) (a met : Int32) (mp mt : Nat → Int32) (mf : Nat → Int64) : Prop := sum + reS p t mp mt mf (a.toInt + 1).toNat = alG p t 11 q 1000000 (fun _ => true) ∧ (∀ i : Nat, (i : Int) ≤ a.toInt → 0 ≤ (mf i).toInt ∧ (mf i).toInt ≤ 1000000) ∧ (0 ≤ a.toInt → ∀ x, x < 10 → bt met x = onP mp a.toNatClampNeg x) ∧ 0 ≤ sum
theorem okT_rng {a met : Int32} {mp mt : Nat → Int32} (h : okT a met mp mt) (i : Nat) (hi : (i : Int) ≤ a.toInt) : 0 ≤ (mp i).toInt ∧ (mp i).toInt < 20 ∧ -1 ≤ (mt i).toInt ∧ (mt i).toInt ≤ 9 := by
  obtain ⟨g1, g2, g3, g4, g5, g6, g7⟩ := h
  have h7 := g7 i hi
  by_cases e : i = 0
  · rw [e] at h7 ⊢; omega
  · have h5 := g5 i (by omega) hi; omega
theorem df_sum {p : Nat → Nat → Int} (hp : okp p) {t q : Nat} {sum : Int} {a met : Int32} {mp mt : Nat → Int32} {mf : Nat → Int64} (hT : okT a met mp mt) (h : dfI p t q sum a met mp mt mf) (hq : q < 20) : 0 ≤ sum ∧ sum ≤ 100000000000000000 := by
  obtain ⟨h1, h2, h3, h4⟩ := h
  have h5 := reS_nn hp (t := t) (mp := mp) (mt := mt) (mf := mf) (a.toInt + 1).toNat (fun i hi => by
    have r := okT_rng hT i (by omega)
    have c := i_cl r.1
    have m := h2 i (by omega)
    exact ⟨by omega, m.1, r.2.2.2⟩)
  have h6 := (alG_bd hp t 11 q 1000000 (fun _ => true) hq (by decide)).2
  have h7 := big_bd (n := 11) (v := 1000000) (by omega) (by decide) (by decide)
  omega
theorem df_0 {p : Nat → Nat → Int} {t : Nat} {q : Int32} {mp mt : Nat → Int32} {mf : Nat → Int64} (h0 : 0 ≤ q.toInt) : dfI p t q.toNatClampNeg 0 0 0 (upd mp ((0 : Int32).toNatClampNeg) q) (upd mt ((0 : Int32).toNatClampNeg) (-1)) (vp_updL mf ((0 : Int32).toNatClampNeg) 1000000) := by
  have k0 : (0 : Int32).toInt = 0 := rfl
  have km : (-1 : Int32).toInt = -1 := rfl
  have kl : (1000000 : Int64).toInt = 1000000 := by decide
  have c0 : (0 : Int32).toNatClampNeg = 0 := rfl
  rw [c0]
  refine ⟨?_, fun i hi => ?_, fun _ x hx => ?_, Int.le_refl _⟩
  · rw [k0, show ((0 : Int) + 1).toNat = 0 + 1 from rfl, reS_s, upd_s, km, show ((-1 : Int) + 1).toNat = 0 from rfl]
    have e : gL p t (upd mp 0 q) (vp_updL mf 0 1000000) 0 = alT p t 10 q.toNatClampNeg 1000000 (fun _ => true) := by
      unfold gL
      rw [upd_s, pk_uLs, kl]
      rfl
    rw [e, alG_s]
    show 0 + (0 + (smC (alT p t 10 q.toNatClampNeg 1000000 (fun _ => true)) 10 - 0)) = _
    omega
  · have : i = 0 := by omega
    subst this
    rw [pk_uLs, kl]
    omega
  · rw [b_0, c0]; rfl
theorem df_stay {p : Nat → Nat → Int} {t q : Nat} {sum sum' : Int} {a met c t' : Int32} {mp mt : Nat → Int32} {mf : Nat → Int64} (hT : okT a met mp mt) (h : dfI p t q sum a met mp mt mf) (h0 : 0 ≤ a.toInt) (ht : t' = mt a.toNatClampNeg) (hc : c.toInt = t'.toInt + 1) (hs : sum' = sum + gL p t mp mf a.toNatClampNeg c.toNatClampNeg) (hs0 : 0 ≤ sum') : dfI p t q sum' a met mp (upd mt a.toNatClampNeg c) mf := by
  have ca := i_cl h0
  have r := okT_rng hT a.toNatClampNeg (by omega)
  rw [← ht] at r
  have cc := i_cl (x := c) (by omega)
  obtain ⟨h1, h2, h3, h4⟩ := h
  refine ⟨?_, h2, h3, hs0⟩
  have en : (a.toInt + 1).toNat = a.toNatClampNeg + 1 := by omega
  rw [en, reS_s] at h1 ⊢
  rw [← ht] at h1
  rw [reS_same (mt := mt) (mp := mp) (mf := mf) a.toNatClampNeg (fun _ _ => rfl) (fun j hj => upd_n _ _ (by omega)) (fun _ _ => rfl), upd_s, show (c.toInt + 1).toNat = c.toNatClampNeg + 1 by omega, smC_s _ c.toNatClampNeg]
  rw [show (t'.toInt + 1).toNat = c.toNatClampNeg by omega] at h1
  omega
theorem df_pop {p : Nat → Nat → Int} {t q : Nat} {sum : Int} {a b met met' c t' : Int32} {mp mt : Nat → Int32} {mf : Nat → Int64} (hT : okT a met mp mt) (h : dfI p t q sum a met mp mt mf) (h0 : 0 ≤ a.toInt) (ht : t' = mt a.toNatClampNeg) (hc : t'.toInt = 9) (hb : b.toInt = a.toInt - 1) (hm : 0 < a.toInt → ∀ i, i < 10 → bt met' i = (bt met i && !decide (i = ((mp a.toNatClampNeg).toInt - 10).toNat))) : dfI p t q sum b met' mp (upd mt a.toNatClampNeg c) mf := by
  have ca := i_cl h0
  obtain ⟨h1, h2, h3, h4⟩ := h
  refine ⟨?_, fun i hi => h2 i (by omega), fun hb0 x hx => ?_, h4⟩
  · have en : (a.toInt + 1).toNat = a.toNatClampNeg + 1 := by omega
    have eb : (b.toInt + 1).toNat = a.toNatClampNeg := by omega
    rw [en, reS_s, ← ht, hc, show ((9 : Int) + 1).toNat = 10 from rfl] at h1
    rw [eb, reS_same (mt := mt) (mp := mp) (mf := mf) a.toNatClampNeg (fun _ _ => rfl) (fun j hj => upd_n _ _ (by omega)) (fun _ _ => rfl)]
    omega
  · have cb := i_cl hb0
    have hm := hm (by omega) x hx
    have h3 := h3 h0 x hx
    have ea : a.toNatClampNeg = b.toNatClampNeg + 1 := by omega
    have g5 := hT.2.2.2.2.1 a.toNatClampNeg (by omega) (by omega)
    rw [hm, h3]
    rw [ea] at g5 ⊢
    rw [onP_s]
    by_cases e : x = ((mp (b.toNatClampNeg + 1)).toInt - 10).toNat
    · have hn : onP mp b.toNatClampNeg x = false := by
        cases q9 : onP mp b.toNatClampNeg x with
        | false => rfl
        | true =>
          obtain ⟨j, j1, j2, j3⟩ := (onP_iff mp b.toNatClampNeg x).mp q9
          exact absurd (by omega) (hT.2.2.2.2.2.1 j (b.toNatClampNeg + 1) j1 (by omega) (by omega))
      rw [hn, decide_eq_true e]
      cases decide ((mp (b.toNatClampNeg + 1)).toInt = (x : Int) + 10) <;> rfl
    · rw [decide_eq_false e, decide_eq_false (by omega), Bool.or_false]
      cases onP mp b.toNatClampNeg x <;> rfl
theorem df_push {p : Nat → Nat → Int} {t q : Nat} {sum : Int} {a b met met' c t' x : Int32} {v : Int64} {mp mt : Nat → Int32} {mf : Nat → Int64} (hT : okT a met mp mt) (h : dfI p t q sum a met mp mt mf) (h0 : 0 ≤ a.toInt) (ht : t' = mt a.toNatClampNeg) (hc : c.toInt = t'.toInt + 1) (h9 : c.toInt ≤ 9) (hb : b.toInt = a.toInt + 1) (h10 : b.toInt ≤ 10) (hf : bt met c.toNatClampNeg = false) (hm : ∀ i, i < 10 → bt met' i = (bt met i || decide (i = c.toNatClampNeg))) (hx : x.toInt = c.toInt + 10) (hpp : 0 < p (mp a.toNatClampNeg).toNatClampNeg c.toNatClampNeg) (hne : ¬ c.toNatClampNeg = t) (hv : v.toInt = (mf a.toNatClampNeg).toInt * p (mp a.toNatClampNeg).toNatClampNeg c.toNatClampNeg / 100) (hv0 : 0 ≤ v.toInt) (hv1 : v.toInt ≤ 1000000) : dfI p t q sum b met' (upd mp b.toNatClampNeg x) (upd (upd mt a.toNatClampNeg c) b.toNatClampNeg (-1)) (vp_updL mf b.toNatClampNeg v) := by
  have ca := i_cl h0
  have cb := i_cl (x := b) (by omega)
  have r := okT_rng hT a.toNatClampNeg (by omega)
  rw [← ht] at r
  have cc := i_cl (x := c) (by omega)
  have cx := i_cl (x := x) (by omega)
  have km : (-1 : Int32).toInt = -1 := rfl
  obtain ⟨h1, h2, h3, h4⟩ := h
  have h3 := h3 h0
  have eb9 : b.toNatClampNeg = a.toNatClampNeg + 1 := by omega
  have hon : onP mp a.toNatClampNeg c.toNatClampNeg = false := by rw [← h3 _ (by omega)]; exact hf
  refine ⟨?_, fun i hi => ?_, fun _ y hy => ?_, h4⟩
  · have en : (a.toInt + 1).toNat = a.toNatClampNeg + 1 := by omega
    have em : (b.toInt + 1).toNat = b.toNatClampNeg + 1 := by omega
    rw [en, reS_s, ← ht, show (t'.toInt + 1).toNat = c.toNatClampNeg by omega] at h1
    rw [em, reS_s, upd_s, km, show ((-1 : Int) + 1).toNat = 0 from rfl, eb9, reS_s, ← eb9]
    rw [reS_same (mp := mp) (mt := mt) (mf := mf) a.toNatClampNeg (fun j hj => upd_n _ _ (by omega)) (fun j hj => by rw [upd_n _ _ (by omega), upd_n _ _ (by omega)]) (fun j hj => pk_uLn (by omega))]
    rw [gL_same (mp := mp) (mf := mf) (i := a.toNatClampNeg) (fun j hj => upd_n _ _ (by omega)) (pk_uLn (by omega))]
    rw [upd_n (upd mt a.toNatClampNeg c) (-1) (show a.toNatClampNeg ≠ b.toNatClampNeg by omega), upd_s, show (c.toInt + 1).toNat = c.toNatClampNeg + 1 by omega, smC_s _ c.toNatClampNeg]
    have e2 : smC (gL p t (upd mp b.toNatClampNeg x) (vp_updL mf b.toNatClampNeg v) b.toNatClampNeg) 10 = gL p t mp mf a.toNatClampNeg c.toNatClampNeg := by
      have e3 : gL p t mp mf a.toNatClampNeg c.toNatClampNeg = alG p t (10 - a.toNatClampNeg) (10 + c.toNatClampNeg) ((mf a.toNatClampNeg).toInt * p (mp a.toNatClampNeg).toNatClampNeg c.toNatClampNeg / 100) (fun y => !onP mp a.toNatClampNeg y && !decide (y = c.toNatClampNeg)) := alT_n ⟨hpp, by rw [hon]; rfl⟩ hne
      rw [e3, ← hv, show 10 - a.toNatClampNeg = (10 - b.toNatClampNeg) + 1 by omega, alG_s]
      unfold gL
      rw [upd_s, pk_uLs, show x.toNatClampNeg = 10 + c.toNatClampNeg by omega]
      congr 2
      funext y
      have e5 : onP (upd mp b.toNatClampNeg x) b.toNatClampNeg y = (onP mp a.toNatClampNeg y || decide (y = c.toNatClampNeg)) := by
        rw [eb9, onP_s, ← eb9, upd_s, onP_same (mp := mp) a.toNatClampNeg (fun j hj => upd_n _ _ (by omega)) y]
        congr 1
        exact decide_eq_decide.mpr ⟨fun z => by omega, fun z => by omega⟩
      rw [e5]
      cases onP mp a.toNatClampNeg y <;> cases decide (y = c.toNatClampNeg) <;> rfl
    rw [e2]
    rw [show smC (gL p t (upd mp b.toNatClampNeg x) (vp_updL mf b.toNatClampNeg v) b.toNatClampNeg) 0 = 0 from rfl]
    omega
  · by_cases e : i = b.toNatClampNeg
    · rw [e, pk_uLs]; exact ⟨hv0, hv1⟩
    · rw [pk_uLn e]; exact h2 i (by omega)
  · rw [hm y hy, h3 y hy, eb9, onP_s, ← eb9, upd_s, onP_same (mp := mp) a.toNatClampNeg (fun j hj => upd_n _ _ (by omega)) y]
    congr 1
    exact decide_eq_decide.mpr ⟨fun z => by omega, fun z => by omega⟩
/-- a share, by the parts p: person q, owner o -/
def shF (p : Nat → Nat → Int) (q o : Nat) : Int := if o < 10 then (if o = q then 1000000 else 0) else (if 2000000000 < alG p (o - 10) 11 q 1000000 (fun _ => true) then 2000000000 else alG p (o - 10) 11 q 1000000 (fun _ => true))
theorem shF_c {p p' : Nat → Nat → Int} (hp : ∀ o c, o < 20 → c < 10 → p o c = p' o c) {q : Nat} (hq : q < 20) (o : Nat) : shF p q o = shF p' q o := by
  unfold shF
  rw [alG_c hp (o - 10) 11 q 1000000 (fun _ => true) (fun _ => true) hq (fun _ _ => rfl)]
theorem shF_bd {p : Nat → Nat → Int} (hp : okp p) {q : Nat} (hq : q < 20) (o : Nat) : 0 ≤ shF p q o ∧ shF p q o ≤ 2000000000 := by
  unfold shF
  have h1 := (alG_bd hp (o - 10) 11 q 1000000 (fun _ => true) hq (by decide)).1
  (repeat' split) <;> omega
/-- who has of whom: the bits are those of the parts, and parts are parts by 100 -/
def okA (pt ha : Nat → Int32) : Prop := (∀ o i : Nat, o < 20 → i < 32 → (bt (ha o) i = true ↔ i < 10 ∧ 0 < (pt (o * 10 + i)).toInt)) ∧ (∀ j : Nat, j < 200 → 0 ≤ (pt j).toInt ∧ (pt j).toInt ≤ 100)
def okL (pt ha re : Nat → Int32) : Prop := okA pt ha ∧ ∀ c i : Nat, c < 10 → i < 32 → bt (re c) i = wrV (fun c9 i9 => bt (ha (10 + c9)) i9) 10 c i
/-- the parts as a table -/
def ptF (pt : Nat → Int32) : Nat → Nat → Int := fun o c => (pt (o * 10 + c)).toInt
theorem okA_p {pt ha : Nat → Int32} (h : okA pt ha) : okp (ptF pt) := fun o c ho hc => h.2 _ (by omega)
/-- the holdings, one after the other, as bits -/
def whQ (pt ho hc ha : Nat → Int32) (n : Int) : Prop := ∀ o i : Nat, o < 20 → i < 32 → (bt (ha o) i = true ↔ i < 10 ∧ 0 < (pt (o * 10 + i)).toInt ∧ ∃ k : Nat, (k : Int) < n ∧ (ho k).toInt = (o : Int) ∧ (hc k).toInt = (i : Int) + 10)
theorem whQ_0 {pt ho hc : Nat → Int32} : whQ pt ho hc (fun _ => 0) ((0 : Int32).toInt) := by
  intro o i h1 h2
  have k0 : (0 : Int32).toInt = 0 := rfl
  rw [b_0]
  exact ⟨fun h => (by cases h), fun h => by obtain ⟨-, -, k, h3, -⟩ := h; omega⟩
theorem whQ_up {pt ho hc ha : Nat → Int32} {n m : Int} {k : Nat} {O s w : Int32} (h : whQ pt ho hc ha n) (hk : (k : Int) = n) (hm : m = n + 1) (e1 : (ho k).toInt = O.toInt) (o0 : 0 ≤ O.toInt) (o1 : O.toInt < 20) (e2 : (hc k).toInt = s.toInt + 10) (s0 : 0 ≤ s.toInt) (s1 : s.toInt < 10) (hp : 0 < (pt (O.toNatClampNeg * 10 + s.toNatClampNeg)).toInt) (hw : w = ha O.toNatClampNeg ||| ((1 : Int32) <<< (s &&& 31))) : whQ pt ho hc (upd ha O.toNatClampNeg w) m := by
  have cO := i_cl o0
  have cs := i_cl s0
  intro o i h1 h2
  have h9 := h o i h1 h2
  by_cases eo : o = O.toNatClampNeg
  · rw [eo] at h9 ⊢
    rw [upd_s, hw, bt_set s0 (by omega) h2, Bool.or_eq_true, h9, decide_eq_true_iff]
    constructor
    · rintro (⟨a1, a2, j, a3, a4, a5⟩ | e)
      · exact ⟨a1, a2, j, by omega, a4, a5⟩
      · rw [e]; exact ⟨by omega, hp, k, by omega, by omega, by omega⟩
    · rintro ⟨a1, a2, j, a3, a4, a5⟩
      by_cases ej : j = k
      · rw [ej] at a5; exact Or.inr (by omega)
      · exact Or.inl ⟨a1, a2, j, by omega, a4, a5⟩
  · rw [upd_n _ _ eo, h9]
    constructor
    · rintro ⟨a1, a2, j, a3, a4, a5⟩
      exact ⟨a1, a2, j, by omega, a4, a5⟩
    · rintro ⟨a1, a2, j, a3, a4, a5⟩
      by_cases ej : j = k
      · rw [ej] at a4; exact absurd (by omega) eo
      · exact ⟨a1, a2, j, by omega, a4, a5⟩
theorem whQ_no {pt ho hc ha : Nat → Int32} {n m : Int} {k a : Nat} (h : whQ pt ho hc ha n) (hk : (k : Int) = n) (hm : m = n + 1) (ha9 : (a : Int) = (ho k).toInt * 10 + (hc k).toInt - 10) (hp : (pt a).toInt ≤ 0) : whQ pt ho hc ha m := by
  intro o i h1 h2
  rw [h o i h1 h2]
  constructor
  · rintro ⟨a1, a2, j, a3, a4, a5⟩
    exact ⟨a1, a2, j, by omega, a4, a5⟩
  · rintro ⟨a1, a2, j, a3, a4, a5⟩
    by_cases ej : j = k
    · rw [ej] at a4 a5
      rw [show o * 10 + i = a by omega] at a2
      omega
    · exact ⟨a1, a2, j, by omega, a4, a5⟩
/-- the rows, as far as they are closed -/
def crQ (B : Nat → Nat → Bool) (re : Nat → Int32) (k j : Nat) : Prop := ∀ c i : Nat, c < 10 → i < 32 → bt (re c) i = if c < j then wrV B (k + 1) c i else wrV B k c i
theorem crQ_0 {ha re : Nat → Int32} {a b n : Int32} (ea : a.toNatClampNeg = 10) (eb : b.toNatClampNeg = 0) (en : n.toNatClampNeg = 10) : crQ (fun c9 i9 => bt (ha (10 + c9)) i9) (va_cpy ha re a.toNatClampNeg b.toNatClampNeg n.toNatClampNeg) 0 0 := by
  intro c i h1 h2
  rw [ea, eb, en, if_neg (by omega)]
  unfold va_cpy
  rw [if_pos (by omega), Nat.sub_zero]
  rfl
theorem crQ_nx {B : Nat → Nat → Bool} {re : Nat → Int32} {k : Nat} (h : crQ B re k 10) : crQ B re (k + 1) 0 := fun c i h1 h2 => by rw [h c i h1 h2, if_pos h1, if_neg (by omega)]
theorem wr_kk (B : Nat → Nat → Bool) (k i : Nat) : wrV B (k + 1) k i = wrV B k k i := by
  rw [wrV_s]
  cases wrV B k k i <;> cases wrV B k k k <;> rfl
theorem crQ_up {B : Nat → Nat → Bool} {re : Nat → Int32} {k j j' : Nat} {w : Int32} (h : crQ B re k j) (hk : k < 10) (hj : j < 10) (ej : j' = j + 1) (hb : bt (re j) k = true) (hw : w = re j ||| re k) : crQ B (upd re j w) k j' := by
  have hjk := h j k hj (by omega)
  rw [if_neg (by omega), hb] at hjk
  intro c i h1 h2
  by_cases e : c = j
  · have e1 := h j i hj h2
    rw [if_neg (by omega)] at e1
    have e2 : bt (re k) i = wrV B k k i := by
      rw [h k i hk h2]
      split
      · exact wr_kk B k i
      · rfl
    rw [e, upd_s, hw, b_or, e1, e2, if_pos (by omega), wrV_s, ← hjk]
    rfl
  · rw [upd_n _ _ e, h c i h1 h2]
    by_cases l : c < j
    · rw [if_pos l, if_pos (by omega)]
    · rw [if_neg l, if_neg (by omega)]
theorem crQ_no {B : Nat → Nat → Bool} {re : Nat → Int32} {k j j' : Nat} (h : crQ B re k j) (hk : k < 10) (hj : j < 10) (ej : j' = j + 1) (hb : bt (re j) k = false) : crQ B re k j' := by
  have hjk := h j k hj (by omega)
  rw [if_neg (by omega), hb] at hjk
  intro c i h1 h2
  rw [h c i h1 h2]
  by_cases e : c = j
  · rw [e, if_neg (by omega), if_pos (by omega), wrV_s, ← hjk]
    cases wrV B k j i <;> rfl
  · by_cases l : c < j
    · rw [if_pos l, if_pos (by omega)]
    · rw [if_neg l, if_neg (by omega)]
/-- companies from which a can be reached, and a -/
def ldQ (re : Nat → Int32) (a : Nat) (set : Int32) (n : Nat) : Prop := ∀ i : Nat, i < 32 → bt set i = (decide (i = a) || (decide (i < n) && bt (re i) a))
theorem ldQ_up {re : Nat → Int32} {a n m : Nat} {set w c : Int32} (h : ldQ re a set n) (hc : c.toInt = n) (hn : n < 10) (hm : m = n + 1) (hb : bt (re n) a = true) (hw : w = set ||| ((1 : Int32) <<< (c &&& 31))) : ldQ re a w m := by
  have cc := i_cl (x := c) (by omega)
  intro i hi
  rw [hw, bt_set (by omega) (by omega) hi, h i hi, hm, show c.toNatClampNeg = n by omega]
  by_cases e : i = n
  · rw [e, hb]; simp
  · by_cases l : i < n
    · simp [e, l, show i < n + 1 by omega]
    · simp [e, l, show ¬ i < n + 1 by omega]
theorem ldQ_no {re : Nat → Int32} {a n m : Nat} {set : Int32} (h : ldQ re a set n) (hm : m = n + 1) (hb : bt (re n) a = false) : ldQ re a set m := by
  intro i hi
  rw [h i hi, hm]
  by_cases e : i = n
  · rw [e, hb]; simp
  · by_cases l : i < n
    · simp [l, show i < n + 1 by omega]
    · simp [l, show ¬ i < n + 1 by omega]
theorem pc_pos {ho hc hp hs : Nat → Int32} {d o c : Int32} (n : Nat) (h : 0 < (pcV ho hc hp hs d o c n).1.toInt) : ∃ k, k < n ∧ (ho k).toInt = o.toInt ∧ (hc k).toInt = c.toInt := by
  induction n with
  | zero => exact absurd h (by show ¬ (0 : Int) < (0 : Int32).toInt; decide)
  | succ n ih =>
    rw [pcV_s] at h
    split at h
    · rename_i g
      exact ⟨n, by omega, g.1, g.2.1⟩
    · obtain ⟨k, h1, h2, h3⟩ := ih h
      exact ⟨k, by omega, h2, h3⟩
/-- the percentages of the holdings -/
def okV (hn : Int32) (hp : Nat → Int32) : Prop := ∀ j : Nat, (j : Int) < hn.toInt → 0 ≤ (hp j).toInt ∧ (hp j).toInt ≤ 100
theorem pc_bd {ho hc hp hs : Nat → Int32} {d o c : Int32} (n : Nat) (h : ∀ j, j < n → 0 ≤ (hp j).toInt ∧ (hp j).toInt ≤ 100) : 0 ≤ (pcV ho hc hp hs d o c n).1.toInt ∧ (pcV ho hc hp hs d o c n).1.toInt ≤ 100 := by
  induction n with
  | zero => exact ⟨by show (0 : Int) ≤ (0 : Int32).toInt; decide, by show (0 : Int32).toInt ≤ 100; decide⟩
  | succ n ih =>
    rw [pcV_s]
    split
    · exact h n (by omega)
    · exact ih (fun j hj => h j (by omega))
/-- the part that o has of company 10 + c on a day -/
def ppF (ho hc hp hs : Nat → Int32) (d : Int32) (n : Nat) : Nat → Nat → Int := fun o c => (pcV ho hc hp hs d (nI o) (nI (c + 10)) n).1.toInt
theorem pcOk_at {pt ps ho hc hp hs : Nat → Int32} {d : Int32} {n : Nat} (h : pcOk pt ps ho hc hp hs d n) {o c : Nat} (h1 : o < 20) (h2 : c < 10) : (pt (o * 10 + c)).toInt = ppF ho hc hp hs d n o c := by
  have a1 := nI_clamp (n := o) (by omega)
  have a2 := nI_toInt (n := o) (by omega)
  have a3 := nI_clamp (n := c + 10) (by omega)
  have a4 := nI_toInt (n := c + 10) (by omega)
  have h9 := h (nI o) (nI (c + 10)) (by omega) (by omega) (by omega) (by omega)
  rw [a1, a3] at h9
  unfold ppF
  rw [← h9, show o * 10 + (c + 10) - 10 = o * 10 + c by omega]
theorem okA_of {pt ps ho hc hp hs ha : Nat → Int32} {d hn : Int32} (h : pcOk pt ps ho hc hp hs d hn.toNatClampNeg) (hw : whQ pt ho hc ha hn.toInt) (hv : okV hn hp) (h0 : 0 ≤ hn.toInt) : okA pt ha := by
  have ch := i_cl h0
  constructor
  · intro o i h1 h2
    rw [hw o i h1 h2]
    constructor
    · rintro ⟨a1, a2, -⟩
      exact ⟨a1, a2⟩
    · rintro ⟨a1, a2⟩
      refine ⟨a1, a2, ?_⟩
      rw [pcOk_at h h1 a1] at a2
      obtain ⟨k, k1, k2, k3⟩ := pc_pos _ a2
      rw [nI_toInt (by omega)] at k2 k3
      exact ⟨k, by omega, k2, by omega⟩
  · intro j hj
    have e : j = (j / 10) * 10 + j % 10 := by omega
    have h9 := pc_bd (ho := ho) (hc := hc) (hp := hp) (hs := hs) (d := d) (o := nI (j / 10)) (c := nI (j % 10 + 10)) hn.toNatClampNeg (fun k hk => hv k (by omega))
    have e2 := pcOk_at h (o := j / 10) (c := j % 10) (by omega) (by omega)
    unfold ppF at e2
    rw [← e] at e2
    omega
/-- along: with the bits of those that lead to t, or with all -/
theorem lead_all {pt ha re : Nat → Int32} {t q : Nat} {set : Int32} (h : okL pt ha re) (ht : t < 10) (hl : ldQ re t set 10) (n : Nat) (v : Int) (hq : q < 20) : alG (ptF pt) t n q v (fun x => bt set x) = alG (ptF pt) t n q v (fun _ => true) := by
  have hcl : ∀ c c', c < 10 → c' < 10 → 0 < ptF pt (10 + c) c' → bt set c' = true → bt set c = true := by
    intro c c' h1 h2 h3 h4
    rw [hl c (by omega), Bool.or_eq_true, Bool.and_eq_true, decide_eq_true_iff, decide_eq_true_iff]
    rw [hl c' (by omega), Bool.or_eq_true, Bool.and_eq_true, decide_eq_true_iff, decide_eq_true_iff] at h4
    have hb : bt (ha (10 + c)) c' = true := (h.1.1 (10 + c) c' (by omega) (by omega)).mpr ⟨h2, h3⟩
    have hb' := wr_le (B := fun c9 i9 => bt (ha (10 + c9)) i9) 10 c c' hb
    refine Or.inr ⟨h1, ?_⟩
    rw [h.2 c t h1 (by omega)]
    rcases h4 with h4 | ⟨-, h4⟩
    · rw [← h4]; exact hb'
    · rw [h.2 c' t h2 (by omega)] at h4
      exact wr_trans 10 c c' t h2 hb' h4
  have ht9 : bt set t = true := by
    rw [hl t (by omega), decide_eq_true rfl]
    rfl
  rw [al_prune (p := ptF pt) (t := t) (lead := fun x => bt set x) hcl ht9 n q v (fun _ => true)]
  exact alG_c (fun _ _ _ _ => rfl) t n q v _ _ hq (fun x hx => by rw [Bool.true_and])
theorem hbb {x c : Int32} (h0 : 0 ≤ c.toInt) (h1 : c.toInt < 32) : hbP x c ↔ bt x c.toNatClampNeg = true := by
  have hc := i_cl h0
  have key : bt ((x.toUInt32 >>> (c.toUInt32 &&& Int32.toUInt32 31)).toInt32 &&& 1) 0 = bt x c.toNatClampNeg := by
    have e : c = nI c.toNatClampNeg := (i_nI h0).symm
    rw [show (x.toUInt32 >>> (c.toUInt32 &&& Int32.toUInt32 31)).toInt32 = (x.toUInt32 >>> ((nI c.toNatClampNeg).toUInt32 &&& Int32.toUInt32 31)).toInt32 by rw [← e], b_and, b_ushr c.toNatClampNeg (by omega), bt_1 0 (by omega)]
    simp
  unfold hbP
  constructor
  · intro h
    cases e : bt x c.toNatClampNeg with
    | true => rfl
    | false =>
      exfalso
      apply h
      apply b_ext
      intro i hi
      rw [b_0]
      by_cases e0 : i = 0
      · subst e0; rw [key, e]
      · rw [b_and, bt_1 i hi]; simp [e0]
  · intro h q
    rw [q, b_0] at key
    rw [h] at key
    cases key
theorem hbn {x c : Int32} (h0 : 0 ≤ c.toInt) (h1 : c.toInt < 32) (h : ¬ hbP x c) : bt x c.toNatClampNeg = false := Bool.eq_false_iff.mpr (fun h9 => h ((hbb h0 h1).mpr h9))
theorem ush_0 {nx c w : Int32} (h0 : 0 ≤ c.toInt) (h1 : c.toInt < 32) (e : w = (nx.toUInt32 >>> (c.toUInt32 &&& Int32.toUInt32 31)).toInt32) (h : w.toInt = 0) : ∀ x, c.toNatClampNeg ≤ x → bt nx x = false := by
  have hc := i_cl h0
  intro x hx
  have hw : w = 0 := i_of h
  have e2 : c = nI c.toNatClampNeg := (i_nI h0).symm
  have h3 : bt w (x - c.toNatClampNeg) = bt nx x := by
    rw [e, show (nx.toUInt32 >>> (c.toUInt32 &&& Int32.toUInt32 31)).toInt32 = (nx.toUInt32 >>> ((nI c.toNatClampNeg).toUInt32 &&& Int32.toUInt32 31)).toInt32 by rw [← e2], b_ushr c.toNatClampNeg (by omega)]
    congr 1
    omega
  rw [← h3, hw, b_0]
theorem al_none {pt ha : Nat → Int32} (h : okA pt ha) {q t n c : Nat} {v : Int} {nx f : Int32} (hq : q < 20) (e : nx = ha q &&& f) (hz : ∀ x, c ≤ x → bt nx x = false) : ∀ x, c ≤ x → x < 10 → alT (ptF pt) t n q v (fun x9 => bt f x9) x = 0 := by
  intro x h1 h2
  refine alT_0 (fun z => ?_)
  have h3 := hz x h1
  rw [e, b_and, (h.1 q x hq (by omega)).mpr ⟨h2, z.1⟩, z.2] at h3
  cases h3
theorem al_bit {pt ha : Nat → Int32} (h : okA pt ha) {q c : Nat} {nx f : Int32} (hq : q < 20) (hc : c < 10) (e : nx = ha q &&& f) (hb : bt nx c = true) : 0 < ptF pt q c ∧ bt f c = true := by
  rw [e, b_and, Bool.and_eq_true] at hb
  exact ⟨((h.1 q c hq (by omega)).mp hb.1).2, hb.2⟩
theorem al_nobit {pt ha : Nat → Int32} (h : okA pt ha) {q c : Nat} {nx f : Int32} (hq : q < 20) (hc : c < 10) (e : nx = ha q &&& f) (hb : bt nx c = false) : ¬ (0 < ptF pt q c ∧ bt f c = true) := by
  intro z
  rw [e, b_and, (h.1 q c hq (by omega)).mpr ⟨hc, z.1⟩, z.2] at hb
  cases hb
theorem mul_bd {v q : Int} (h0 : 0 ≤ v) (h1 : v ≤ 1000000) (h2 : 0 ≤ q) (h3 : q ≤ 100) : 0 ≤ v * q ∧ v * q ≤ 100000000 := by
  have a1 := Int.mul_nonneg h0 h2
  have a2 : v * q ≤ v * 100 := Int.mul_le_mul_of_nonneg_left h3 h0
  omega
theorem pdiv {v q w z : Int32} (e1 : w = v * q) (e2 : z = w / 100) (h0 : 0 ≤ v.toInt) (h1 : v.toInt ≤ 1000000) (h2 : 0 ≤ q.toInt) (h3 : q.toInt ≤ 100) : z.toInt = v.toInt * q.toInt / 100 := by
  have hb := mul_bd h0 h1 h2 h3
  have hw : w.toInt = v.toInt * q.toInt := by rw [e1]; exact i_mul (by omega) (by omega)
  have k100 : (100 : Int32).toInt = 100 := by decide
  rw [e2, Int32.toInt_div, k100, hw, Int.tdiv_eq_ediv_of_nonneg hb.1]
  exact i_bmod (by omega) (by omega)
theorem ldQ_0 {re : Nat → Int32} {a set : Int32} (e : set = (1 : Int32) <<< (a &&& 31)) (h0 : 0 ≤ a.toInt) (h1 : a.toInt < 32) : ldQ re a.toNatClampNeg set 0 := by
  intro i hi
  rw [e, bt_shl h0 h1 hi, decide_eq_false (show ¬ i < 0 by omega)]
  cases decide (i = a.toNatClampNeg) <;> rfl
theorem mn_l {x y z : Int64} (e : z = if y < x then y else x) : z.toInt = if y.toInt < x.toInt then y.toInt else x.toInt := by
  rw [e]
  by_cases h : y < x
  · rw [if_pos h, if_pos (Int64.lt_iff_toInt_lt.mp h)]
  · rw [if_neg h, if_neg (fun h9 => h (Int64.lt_iff_toInt_lt.mpr h9))]


def sp_share (hn : Int32) (ho hc hp hs : Nat → Int32) (q o d : Int32) : Int := if 0 ≤ q.toInt ∧ q.toInt < 10 ∧ 0 ≤ o.toInt ∧ o.toInt < 20 ∧ 0 ≤ d.toInt ∧ d.toInt < 10000 then shF (ppF ho hc hp hs d hn.toNatClampNeg) q.toNatClampNeg o.toNatClampNeg else -1000001
/-- the person who has most, and how much that is -/
def trV (p : Nat → Nat → Int) (o : Nat) : Nat → Int × Int
  | 0 => (-1000000, 0)
  | n + 1 => if (trV p o n).2 < shF p n o then ((n : Int), shF p n o) else trV p o n
theorem trV_s (p : Nat → Nat → Int) (o n : Nat) : trV p o (n + 1) = if (trV p o n).2 < shF p n o then ((n : Int), shF p n o) else trV p o n := rfl
def sp_truly (hn : Int32) (ho hc hp hs : Nat → Int32) (o d : Int32) : Int := if 0 ≤ o.toInt ∧ o.toInt < 20 ∧ 0 ≤ d.toInt ∧ d.toInt < 10000 then (trV (ppF ho hc hp hs d hn.toNatClampNeg) o.toNatClampNeg 10).1 else -1000001
theorem ptF_pp {pt ps ho hc hp hs : Nat → Int32} {d : Int32} {n : Nat} (h : pcOk pt ps ho hc hp hs d n) : ∀ o c, o < 20 → c < 10 → ptF pt o c = ppF ho hc hp hs d n o c := fun o c h1 h2 => pcOk_at h h1 h2


/-- the companies in a ring, as bits -/
def rgQ (B : Nat → Nat → Bool) (r : Int32) (n : Nat) : Prop := ∀ i : Nat, i < 32 → bt r i = (decide (i < n) && wrV B 10 i i)
def ppB (p : Nat → Nat → Int) : Nat → Nat → Bool := fun c d => decide (d < 10 ∧ 0 < p (10 + c) d)
theorem wr_c {B B' : Nat → Nat → Bool} (h : ∀ c d, c < 10 → d < 32 → B c d = B' c d) (k : Nat) (hk : k ≤ 10) : ∀ c d, c < 10 → d < 32 → wrV B k c d = wrV B' k c d := by
  induction k with
  | zero => exact h
  | succ k ih =>
    intro c d h1 h2
    rw [wrV_s, wrV_s, ih (by omega) c d h1 h2, ih (by omega) c k h1 (by omega), ih (by omega) k d (by omega) h2]
def sp_rings (hn : Int32) (ho hc hp hs : Nat → Int32) (d r : Int32) : Prop := if 0 ≤ d.toInt ∧ d.toInt < 10000 then rgQ (ppB (ppF ho hc hp hs d hn.toNatClampNeg)) r 10 else r.toInt = -1000001
theorem re_pp {pt ps ho hc hp hs ha re : Nat → Int32} {d : Int32} {n : Nat} (h : pcOk pt ps ho hc hp hs d n) (hL : okL pt ha re) {c i : Nat} (h1 : c < 10) (h2 : i < 32) : bt (re c) i = wrV (ppB (ppF ho hc hp hs d n)) 10 c i := by
  rw [hL.2 c i h1 h2]
  refine wr_c (fun c9 d9 a1 a2 => ?_) 10 (Nat.le_refl _) c i h1 h2
  unfold ppB
  apply Bool.eq_iff_iff.mpr
  rw [hL.1.1 (10 + c9) d9 (by omega) a2, decide_eq_true_iff]
  constructor
  · rintro ⟨b1, b2⟩
    rw [pcOk_at h (by omega) b1] at b2
    exact ⟨b1, b2⟩
  · rintro ⟨b1, b2⟩
    rw [← pcOk_at h (by omega) b1] at b2
    exact ⟨b1, b2⟩
theorem rgQ_up {B : Nat → Nat → Bool} {r w c : Int32} {n m : Nat} (h : rgQ B r n) (hc : c.toInt = n) (hn : n < 10) (hm : m = n + 1) (hb : wrV B 10 n n = true) (hw : w = r ||| ((1 : Int32) <<< (c &&& 31))) : rgQ B w m := by
  have cc := i_cl (x := c) (by omega)
  intro i hi
  rw [hw, bt_set (by omega) (by omega) hi, h i hi, hm, show c.toNatClampNeg = n by omega]
  by_cases e : i = n
  · rw [e, hb]; simp
  · by_cases l : i < n
    · simp [e, l, show i < n + 1 by omega]
    · simp [e, l, show ¬ i < n + 1 by omega]
theorem rgQ_no {B : Nat → Nat → Bool} {r : Int32} {n m : Nat} (h : rgQ B r n) (hm : m = n + 1) (hb : wrV B 10 n n = false) : rgQ B r m := by
  intro i hi
  rw [h i hi, hm]
  by_cases e : i = n
  · rw [e, hb]; simp
  · by_cases l : i < n
    · simp [l, show i < n + 1 by omega]
    · simp [l, show ¬ i < n + 1 by omega]
theorem rgQ_0 {B : Nat → Nat → Bool} : rgQ B 0 0 := fun i hi => by rw [b_0, decide_eq_false (by omega)]; rfl


/-- the crates in a room, as bits -/
def setV (ro : Nat → Int32) (r : Int32) : Nat → Int32
  | 0 => 0
  | n + 1 => if (ro n).toInt = r.toInt then setV ro r n ||| ((1 : Int32) <<< (nI n &&& 31)) else setV ro r n
theorem setV_s (ro : Nat → Int32) (r : Int32) (n : Nat) : setV ro r (n + 1) = if (ro n).toInt = r.toInt then setV ro r n ||| ((1 : Int32) <<< (nI n &&& 31)) else setV ro r n := rfl
/-- the worths of the crates of a set -/
def woV (wo : Nat → Int32) (set : Int32) : Nat → Int32
  | 0 => 0
  | n + 1 => if hbP set (nI n) then woV wo set n + wo n else woV wo set n
theorem woV_s (wo : Nat → Int32) (set : Int32) (n : Nat) : woV wo set (n + 1) = if hbP set (nI n) then woV wo set n + wo n else woV wo set n := rfl
def us32 (x k : Int32) : Int32 := (x.toUInt32 >>> (k.toUInt32 &&& Int32.toUInt32 31)).toInt32
def bc1 (a : Int32) : Int32 := a - (us32 a 1 &&& 1431655765)
def bc2 (a : Int32) : Int32 := (a &&& 858993459) + (us32 a 2 &&& 858993459)
def bc3 (a : Int32) : Int32 := (a + us32 a 4) &&& 252645135
def bc4 (a : Int32) : Int32 := a + us32 a 8
def bc5 (a : Int32) : Int32 := a + us32 a 16
/-- how many bits are set, as the library counts them -/
def bcf (a : Int32) : Int32 := bc5 (bc4 (bc3 (bc2 (bc1 a)))) &&& 63

/-- the crates in rooms, as bits -/
def stV (cn : Int32) (ro : Nat → Int32) : Int32 := (((1 : Int32) <<< (cn &&& 31)) - 1) &&& ((setV ro (-1000000) cn.toNatClampNeg) ^^^ (-1))

def sp_move (cn : Int32) (wo ro aw iw : Nat → Int32) (k q : Int32) : Int32 × (Nat → Int32) := if 0 ≤ k.toInt ∧ k.toInt < cn.toInt ∧ (q.toInt = -1000000 ∨ (0 ≤ q.toInt ∧ q.toInt < 6)) then (if (ro k.toNatClampNeg).toInt = q.toInt then (-1000002, ro) else if q.toInt = -1000000 ∨ ((bcf (setV ro q cn.toNatClampNeg)).toInt < (aw q.toNatClampNeg).toInt ∧ (woV wo (setV ro q cn.toNatClampNeg) cn.toNatClampNeg + wo k.toNatClampNeg).toInt ≤ (iw q.toNatClampNeg).toInt) then (ro k.toNatClampNeg, upd ro k.toNatClampNeg q) else (-1000003, ro)) else (-1000001, ro)
def sp_inside (cn : Int32) (wo ro : Nat → Int32) (q w : Int32) : Int32 := if 0 ≤ q.toInt ∧ q.toInt < 6 ∧ 0 ≤ w.toInt ∧ w.toInt < 3 then (if w.toInt = 0 then bcf (setV ro q cn.toNatClampNeg) else if w.toInt = 1 then woV wo (setV ro q cn.toNatClampNeg) cn.toNatClampNeg else setV ro q cn.toNatClampNeg) else -1000001

def sp_room (aw iw : Nat → Int32) (q w v : Int32) : Int32 × (Nat → Int32) × (Nat → Int32) := if 0 ≤ q.toInt ∧ q.toInt < 6 ∧ 0 ≤ w.toInt ∧ w.toInt < 2 ∧ 0 ≤ v.toInt ∧ ((w.toInt = 0 ∧ v.toInt ≤ 12) ∨ (w.toInt = 1 ∧ v.toInt ≤ 1000000)) then (if w.toInt = 0 then (aw q.toNatClampNeg, upd aw q.toNatClampNeg v, iw) else (iw q.toNatClampNeg, aw, upd iw q.toNatClampNeg v)) else (-1000001, aw, iw)

/-- the number drawn for a crate on a day -/
def an_lot (sd a d : Int32) : Int64 :=
  let z0 : Int64 := sd.toInt64 + a.toInt64 * 1000003 + d.toInt64 * 8191
  let z1 : Int64 := z0 * (-7046029254386353131)
  let z2 : Int64 := z1 ^^^ (z1.toUInt64 >>> ((29 : Int32).toInt64.toUInt64 &&& Int64.toUInt64 63)).toInt64
  let z3 : Int64 := z2 * (-4658895280553007687)
  let z4 : Int64 := z3 ^^^ (z3.toUInt64 >>> ((32 : Int32).toInt64.toUInt64 &&& Int64.toUInt64 63)).toInt64
  z4 &&& 9223372036854775807
def an_lotn (sd a d n : Int32) : Int32 := if 0 ≤ a.toInt ∧ a.toInt < 12 ∧ 0 ≤ d.toInt ∧ d.toInt < 10000 ∧ 1 ≤ n.toInt ∧ n.toInt ≤ 1000000 then (an_lot sd a d - an_lot sd a d / n.toInt64 * n.toInt64).toInt32 else -1000001


/-- the lots of a day -/
def lotF (sd d : Int32) : Nat → Int64 := fun c => an_lot sd (nI c) d
theorem lotF_e (sd d : Int32) (c : Nat) : lotF sd d c = an_lot sd (nI c) d := rfl
/-- how many crates of a set stand ahead of one -/
def hmV (lo : Nat → Int64) (a k : Int32) : Nat → Int32
  | 0 => 0
  | n + 1 => if hbP a (nI n) ∧ ((lo n).toInt < (lo k.toNatClampNeg).toInt ∨ ((lo n).toInt = (lo k.toNatClampNeg).toInt ∧ (n : Int) < k.toInt)) then hmV lo a k n + 1 else hmV lo a k n
theorem hmV_s (lo : Nat → Int64) (a k : Int32) (n : Nat) : hmV lo a k (n + 1) = if hbP a (nI n) ∧ ((lo n).toInt < (lo k.toNatClampNeg).toInt ∨ ((lo n).toInt = (lo k.toNatClampNeg).toInt ∧ (n : Int) < k.toInt)) then hmV lo a k n + 1 else hmV lo a k n := rfl
theorem hm_cong {lo : Nat → Int64} {sd d a k : Int32} (h : ∀ c : Nat, c < 12 → hbP a (nI c) → lo c = an_lot sd (nI c) d) (hk : hbP a k) (k0 : 0 ≤ k.toInt) (k1 : k.toInt < 12) (n : Nat) (hn : n ≤ 12) : hmV lo a k n = hmV (lotF sd d) a k n := by
  have ck := i_cl k0
  have ek : lo k.toNatClampNeg = lotF sd d k.toNatClampNeg := by rw [lotF_e]; exact h _ (by omega) (by rw [i_nI k0]; exact hk)
  induction n with
  | zero =>
    show (0 : Int32) = 0
    rfl
  | succ n ih =>
    rw [hmV_s, hmV_s, ih (by omega), ek]
    by_cases hb : hbP a (nI n)
    · have en : lo n = lotF sd d n := by rw [lotF_e]; exact h n (by omega) hb
      rw [en]
    · rw [if_neg (fun z => hb z.1), if_neg (fun z => hb z.1)]
/-- the crates drawn -/
def drV (lo : Nat → Int64) (a m : Int32) : Nat → Int32
  | 0 => 0
  | n + 1 => if hbP a (nI n) ∧ (hmV lo a (nI n) 12).toInt < m.toInt then drV lo a m n ||| ((1 : Int32) <<< (nI n &&& 31)) else drV lo a m n
theorem drV_s (lo : Nat → Int64) (a m : Int32) (n : Nat) : drV lo a m (n + 1) = if hbP a (nI n) ∧ (hmV lo a (nI n) 12).toInt < m.toInt then drV lo a m n ||| ((1 : Int32) <<< (nI n &&& 31)) else drV lo a m n := rfl
def sp_drawn (sd cn : Int32) (ro : Nat → Int32) (d n : Int32) : Int32 := if 0 ≤ d.toInt ∧ d.toInt < 10000 ∧ 0 ≤ n.toInt ∧ n.toInt ≤ 12 then drV (lotF sd d) (stV cn ro) n 12 else -1000001
/-- on how many days a crate is drawn -/
def ofV (sd a k n : Int32) (A : Nat) : Nat → Int32
  | 0 => 0
  | j + 1 => if (hmV (lotF sd (nI (A + j))) a k 12).toInt < n.toInt then ofV sd a k n A j + 1 else ofV sd a k n A j
theorem ofV_s (sd a k n : Int32) (A j : Nat) : ofV sd a k n A (j + 1) = if (hmV (lotF sd (nI (A + j))) a k 12).toInt < n.toInt then ofV sd a k n A j + 1 else ofV sd a k n A j := rfl
def sp_often (sd cn : Int32) (ro : Nat → Int32) (k a b n : Int32) : Int32 := if 0 ≤ k.toInt ∧ k.toInt < cn.toInt ∧ 0 ≤ a.toInt ∧ b.toInt < 10000 ∧ a.toInt ≤ b.toInt ∧ b.toInt - a.toInt < 400 ∧ 0 ≤ n.toInt ∧ n.toInt ≤ 12 then (if hbP (stV cn ro) k then ofV sd (stV cn ro) k n a.toNatClampNeg (b.toNatClampNeg - a.toNatClampNeg + 1) else 0) else -1000001


def absV (x : Int32) : Int32 := if 0 ≤ x then x else 0 - x
def maxV (x y : Int32) : Int32 := if x < y then y else x
theorem absV_p {x : Int32} (h : 0 ≤ x.toInt) : x = absV x := by
  unfold absV
  rw [if_pos (Int32.le_iff_toInt_le.mpr (by have k0 : (0 : Int32).toInt = 0 := rfl; omega))]
theorem absV_n {x y : Int32} (h : x.toInt < 0) (e : y = -x) : y = absV x := by
  unfold absV
  rw [if_neg (fun h9 => by have h8 := Int32.le_iff_toInt_le.mp h9; have k0 : (0 : Int32).toInt = 0 := rfl; omega), e]
  first | exact (Int32.zero_sub x).symm | exact Int32.toBitVec_inj.mp (by rw [Int32.toBitVec_sub, Int32.toBitVec_neg]; exact (BitVec.zero_sub _).symm)
theorem maxV_t {x y : Int32} (h : x.toInt < y.toInt) : y = maxV x y := by
  unfold maxV
  rw [if_pos (Int32.lt_iff_toInt_lt.mpr h)]
theorem maxV_f {x y : Int32} (h : y.toInt ≤ x.toInt) : x = maxV x y := by
  unfold maxV
  rw [if_neg (fun h9 => by have h8 := Int32.lt_iff_toInt_lt.mp h9; omega)]
/-- the first opening of a crate -/
def fiV (uk uy : Nat → Int32) (k : Int32) : Nat → Int32
  | 0 => -1
  | n + 1 => if (uk n).toInt = k.toInt ∧ ((fiV uk uy k n).toInt < 0 ∨ (uy n).toInt < (uy (fiV uk uy k n).toNatClampNeg).toInt) then nI n else fiV uk uy k n
theorem fiV_s (uk uy : Nat → Int32) (k : Int32) (n : Nat) : fiV uk uy k (n + 1) = if (uk n).toInt = k.toInt ∧ ((fiV uk uy k n).toInt < 0 ∨ (uy n).toInt < (uy (fiV uk uy k n).toNatClampNeg).toInt) then nI n else fiV uk uy k n := rfl
def cmF (far mis : Int32) : Int32 := if 100 < far.toInt ∨ 2 ≤ mis.toInt then 2 else if far.toInt ≤ 10 ∧ mis.toInt = 0 then 0 else 1
def cmV (uw um : Nat → Int32) (x y : Nat) : Int32 := cmF (absV (uw y - uw x)) (bcf (um x &&& (um y ^^^ (-1))))
/-- the worst of a crate's openings against the one at f -/
def wrsV (uk uw um : Nat → Int32) (k : Int32) (f : Nat) : Nat → Int32
  | 0 => 0
  | n + 1 => if (uk n).toInt = k.toInt then maxV (wrsV uk uw um k f n) (cmV uw um f n) else wrsV uk uw um k f n
theorem wrsV_s (uk uw um : Nat → Int32) (k : Int32) (f n : Nat) : wrsV uk uw um k f (n + 1) = if (uk n).toInt = k.toInt then maxV (wrsV uk uw um k f n) (cmV uw um f n) else wrsV uk uw um k f n := rfl
def vdV (un : Int32) (uk uy uw um : Nat → Int32) (k : Int32) : Int32 := if (fiV uk uy k un.toNatClampNeg).toInt < 0 then 0 else wrsV uk uw um k (fiV uk uy k un.toNatClampNeg).toNatClampNeg un.toNatClampNeg
def sp_verdict (cn un : Int32) (uk uy uw um : Nat → Int32) (k : Int32) : Int32 := if 0 ≤ k.toInt ∧ k.toInt < cn.toInt then vdV un uk uy uw um k else -1000001


/-- the people on lists on a day, as bits -/
def poV (lp la lb : Nat → Int32) (d : Int32) : Nat → Int32
  | 0 => 0
  | n + 1 => if (la n).toInt ≤ d.toInt ∧ d.toInt ≤ (lb n).toInt then poV lp la lb d n ||| ((1 : Int32) <<< (lp n &&& 31)) else poV lp la lb d n
theorem poV_s (lp la lb : Nat → Int32) (d : Int32) (n : Nat) : poV lp la lb d (n + 1) = if (la n).toInt ≤ d.toInt ∧ d.toInt ≤ (lb n).toInt then poV lp la lb d n ||| ((1 : Int32) <<< (lp n &&& 31)) else poV lp la lb d n := rfl


/-- the shares of the people of a set, added -/
def brV (p : Nat → Nat → Int) (set : Int32) (o : Nat) : Nat → Int
  | 0 => 0
  | n + 1 => if bt set n = true then brV p set o n + shF p n o else brV p set o n
theorem brV_s (p : Nat → Nat → Int) (set : Int32) (o n : Nat) : brV p set o (n + 1) = if bt set n = true then brV p set o n + shF p n o else brV p set o n := rfl
theorem brV_0 (p : Nat → Nat → Int) (o n : Nat) : brV p 0 o n = 0 := by
  induction n with
  | zero => rfl
  | succ n ih => rw [brV_s, b_0, if_neg (by decide)]; exact ih
/-- first owners are owners; papers go to owners -/
def okF (cn : Int32) (fo : Nat → Int32) : Prop := ∀ j : Nat, (j : Int) < cn.toInt → 0 ≤ (fo j).toInt ∧ (fo j).toInt < 20
def okG (pn : Int32) (po : Nat → Int32) : Prop := ∀ j : Nat, (j : Int) < pn.toInt → 0 ≤ (po j).toInt ∧ (po j).toInt < 20
theorem owV_rng {pk pf po pd pe pr : Nat → Int32} {pn k d n x : Int32} (ho : okO pn pr) (hg : okG pn po) (h0 : 0 ≤ x.toInt) (h1 : x.toInt < 20) (m : Nat) (hm : (m : Int) ≤ pn.toInt) : 0 ≤ (owV pk pf po pd pe pr k d n x m).toInt ∧ (owV pk pf po pd pe pr k d n x m).toInt < 20 := by
  induction m with
  | zero => exact ⟨h0, h1⟩
  | succ m ih =>
    rw [owV_s]
    split
    · have a := ho m (by omega)
      have c := i_cl a.1
      exact hg _ (by omega)
    · exact ih (by omega)
/-- the kind: barred, or by what is owed -/
def kdF (br : Int) (owed worth : Int32) : Int32 := if 500000 ≤ br then 3 else if worth.toInt < owed.toInt then 2 else if 0 < owed.toInt then 1 else 4
/-- a body leaves its number -/
def lvT (s : Int32 × (Nat → Int32)) (a : Int32) : Int32 × (Nat → Int32) := if s.1.toInt < 16 then (s.1 + 1, upd s.2 s.1.toNatClampNeg a) else s
theorem lvT_y {tn v a : Int32} {tr : Nat → Int32} (h : tn.toInt < 16) (e : v = tn + 1) : (v, upd tr tn.toNatClampNeg a) = lvT (tn, tr) a := by
  unfold lvT
  rw [if_pos (show (tn, tr).1.toInt < 16 from h), e]
theorem lvT_n {tn a : Int32} {tr : Nat → Int32} (h : ¬ tn.toInt < 16) : (tn, tr) = lvT (tn, tr) a := by
  unfold lvT
  rw [if_neg (show ¬ (tn, tr).1.toInt < 16 from h)]


theorem okA_q {pt ps ho hc hp hs ha re : Nat → Int32} {d : Int32} {n : Nat} (h : pcOk pt ps ho hc hp hs d n) (hL : okL pt ha re) : okp (ppF ho hc hp hs d n) := fun o c h1 h2 => by rw [← pcOk_at h h1 h2]; exact hL.1.2 _ (by omega)

def sp_barred (cn pn hn lc : Int32) (fo pk pf po pd pe pr ho hc hp hs lp la lb : Nat → Int32) (k d : Int32) : Int32 := if 0 ≤ k.toInt ∧ k.toInt < cn.toInt ∧ 0 ≤ d.toInt ∧ d.toInt < 10000 then (if 500000 ≤ brV (ppF ho hc hp hs d hn.toNatClampNeg) (poV lp la lb d lc.toNatClampNeg) (owV pk pf po pd pe pr k d d (fo k.toNatClampNeg) pn.toNatClampNeg).toNatClampNeg 10 then 1 else 0) else -1000001

def kd_day (pn hn lc gn td : Int32) (fo wo pk pf po pd pe pr ho hc hp hs lp la lb gk gs ge : Nat → Int32) (k : Int32) : Int32 := kdF (brV (ppF ho hc hp hs td hn.toNatClampNeg) (poV lp la lb td lc.toNatClampNeg) (owV pk pf po pd pe pr k td td (fo k.toNatClampNeg) pn.toNatClampNeg).toNatClampNeg 10) (suV gk gs ge k td gn.toNatClampNeg) (wo k.toNatClampNeg)
def sp_kind (cn pn hn lc gn td : Int32) (fo wo pk pf po pd pe pr ho hc hp hs lp la lb gk gs ge : Nat → Int32) (k : Int32) : Int32 := if 0 ≤ k.toInt ∧ k.toInt < cn.toInt then kd_day pn hn lc gn td fo wo pk pf po pd pe pr ho hc hp hs lp la lb gk gs ge k else -1000001
/-- of a kind: the one told, or one that it is, too -/
def isK (a b : Int32) : Prop := b.toInt = 0 ∨ b.toInt = a.toInt ∨ (b.toInt = 1 ∧ a.toInt = 2)
def sp_as (lf cn pn hn lc gn td : Int32) (fo wo pk pf po pd pe pr ho hc hp hs lp la lb gk gs ge : Nat → Int32) (k w r lf' : Int32) : Prop := if 0 ≤ k.toInt ∧ k.toInt < cn.toInt ∧ 0 ≤ w.toInt ∧ w.toInt < 5 then ((isK (kd_day pn hn lc gn td fo wo pk pf po pd pe pr ho hc hp hs lp la lb gk gs ge k) w ∧ r = wo k.toNatClampNeg ∧ lf' = 0) ∨ (¬ isK (kd_day pn hn lc gn td fo wo pk pf po pd pe pr ho hc hp hs lp la lb gk gs ge k) w ∧ r = -1000013 ∧ lf' = 3)) else (r = -1000001 ∧ lf' = lf)


/-- SIZE and MARK of a kind: the answer, and the trace -/
def szF (kd wo su ow : Int32) (s : Int32 × (Nat → Int32)) : Int32 × Int32 × (Nat → Int32) := if kd.toInt = 1 then (wo - su, lvT (lvT s 11) 10) else if kd.toInt = 2 then ((wo - su) / 2, lvT (lvT (lvT s 12) 11) 10) else if kd.toInt = 3 then (-(ow + 1000), lvT (lvT (lvT s 13) 22) 20) else (wo, lvT s 10)
def mkF (kd wo ow : Int32) (s : Int32 × (Nat → Int32)) : Int32 × Int32 × (Nat → Int32) := if kd.toInt = 1 ∨ kd.toInt = 2 then (ow + 100, lvT (lvT s 21) 20) else if kd.toInt = 3 then (ow + 1000, lvT (lvT s 22) 20) else if kd.toInt = 4 then (ow + wo, lvT (lvT (lvT s 23) 20) 10) else (ow, lvT s 20)

def sp_ask (tn : Int32) (tr : Nat → Int32) (cn pn hn lc gn td : Int32) (fo wo pk pf po pd pe pr ho hc hp hs lp la lb gk gs ge : Nat → Int32) (k w : Int32) : Int32 × Int32 × (Nat → Int32) := if 0 ≤ k.toInt ∧ k.toInt < cn.toInt ∧ 0 ≤ w.toInt ∧ w.toInt < 2 then (if w.toInt = 0 then szF (kd_day pn hn lc gn td fo wo pk pf po pd pe pr ho hc hp hs lp la lb gk gs ge k) (wo k.toNatClampNeg) (suV gk gs ge k td gn.toNatClampNeg) (owV pk pf po pd pe pr k td td (fo k.toNatClampNeg) pn.toNatClampNeg) (0, tr) else mkF (kd_day pn hn lc gn td fo wo pk pf po pd pe pr ho hc hp hs lp la lb gk gs ge k) (wo k.toNatClampNeg) (owV pk pf po pd pe pr k td td (fo k.toNatClampNeg) pn.toNatClampNeg) (0, tr)) else (-1000001, tn, tr)

def sp_trace (tn : Int32) (tr : Nat → Int32) (i : Int32) : Int32 := if 0 ≤ i.toInt ∧ i.toInt < tn.toInt then tr i.toNatClampNeg else -1000000

/-- a sheet's row is another one -/
def upR (rs : Nat → Nat → Int32) (j : Nat) (g : Nat → Int32) : Nat → Nat → Int32 := fun i => if i = j then g else rs i
theorem rows_at {rw : Nat → Nat} {cI : ClassId} {rs : Nat → Nat → Int32} {X : va_W} {j : Nat} (hj : j < 8) : (((rw 0, .inl (cI, 60, .inl (rs 0))) :: (rw 1, .inl (cI, 60, .inl (rs 1))) :: (rw 2, .inl (cI, 60, .inl (rs 2))) :: (rw 3, .inl (cI, 60, .inl (rs 3))) :: (rw 4, .inl (cI, 60, .inl (rs 4))) :: (rw 5, .inl (cI, 60, .inl (rs 5))) :: (rw 6, .inl (cI, 60, .inl (rs 6))) :: (rw 7, .inl (cI, 60, .inl (rs 7))) :: X) : va_W)[j]? = some (rw j, .inl (cI, 60, .inl (rs j))) := by
  rcases (show j = 0 ∨ j = 1 ∨ j = 2 ∨ j = 3 ∨ j = 4 ∨ j = 5 ∨ j = 6 ∨ j = 7 by omega) with rfl | rfl | rfl | rfl | rfl | rfl | rfl | rfl <;> rfl
theorem rows_set {rw : Nat → Nat} {cI : ClassId} {rs : Nat → Nat → Int32} {g : Nat → Int32} {X : va_W} {j : Nat} (hj : j < 8) : (((rw 0, .inl (cI, 60, .inl (rs 0))) :: (rw 1, .inl (cI, 60, .inl (rs 1))) :: (rw 2, .inl (cI, 60, .inl (rs 2))) :: (rw 3, .inl (cI, 60, .inl (rs 3))) :: (rw 4, .inl (cI, 60, .inl (rs 4))) :: (rw 5, .inl (cI, 60, .inl (rs 5))) :: (rw 6, .inl (cI, 60, .inl (rs 6))) :: (rw 7, .inl (cI, 60, .inl (rs 7))) :: X) : va_W).set j (rw j, .inl (cI, 60, .inl g)) = (rw 0, .inl (cI, 60, .inl (upR rs j g 0))) :: (rw 1, .inl (cI, 60, .inl (upR rs j g 1))) :: (rw 2, .inl (cI, 60, .inl (upR rs j g 2))) :: (rw 3, .inl (cI, 60, .inl (upR rs j g 3))) :: (rw 4, .inl (cI, 60, .inl (upR rs j g 4))) :: (rw 5, .inl (cI, 60, .inl (upR rs j g 5))) :: (rw 6, .inl (cI, 60, .inl (upR rs j g 6))) :: (rw 7, .inl (cI, 60, .inl (upR rs j g 7))) :: X := by
  rcases (show j = 0 ∨ j = 1 ∨ j = 2 ∨ j = 3 ∨ j = 4 ∨ j = 5 ∨ j = 6 ∨ j = 7 by omega) with rfl | rfl | rfl | rfl | rfl | rfl | rfl | rfl <;> rfl
section AALD
variable {p : Program} {l : Launch} {e : Env} {R : Room} {s : State} {m : MethodId} {args : Array Value} {below : List Frame} {meth : Method} {c : Code} {H : Heap} {locs : List Loc} {cells slots : Nat} {Q : State → Prop}
variable {pc : Nat} {ls : Array Slot} {rest : List Value} {D : va_G} {tys : List (ClassId × FieldType)} {ws : va_W}
theorem st_aaldR {cc : ByteArray} {q1 : Nat} {rw : Nat → Nat} (hexec : p.tables.exec = Jvm.exec) (hb : c.code = cc) {cl : List vw_C} (hK : va_K D cl tys s) (hP : va_P D cl ws H) (q0 t0 : Nat) {cA : ClassId} {ty : FieldType} (ha : ws[q0]? = some (q1, .inl (cA, 8, .inr (.inr (.inr (.inr (fun i => if i < 8 then some (rw i) else none))))))) (ht : tys[t0]? = some (cA, .array ty)) {i : Int32} (hin : vp_in i 8) (hdg : decode cc pc = .ok (.aaload, 1))
    (kk : W p l e R s m args below meth c H locs cells slots Q (F0 m (pc + 1) ls (.ref (rw i.toNatClampNeg) :: rest))) : W p l e R s m args below meth c H locs cells slots Q (F0 m pc ls (.int i :: .ref q1 :: rest)) := by
  have hlt : i.toNatClampNeg < 8 := Nat.not_le.mp fun q => hin (Or.inr q)
  refine st_aald hexec hb hK hP q0 t0 ha ht hin hdg ?_
  have e9 : (if i.toNatClampNeg < 8 then some (rw i.toNatClampNeg) else none) = some (rw i.toNatClampNeg) := if_pos hlt
  rw [e9]
  exact kk
end AALD


def okS (ss : Nat → Int32) : Prop := ∀ j : Nat, j < 8 → -1 ≤ (ss j).toInt ∧ (ss j).toInt ≤ 60
theorem okS_at {ss : Nat → Int32} (h : okS ss) {i v : Int32} (e : v = ss i.toNatClampNeg) (h0 : 0 ≤ i.toInt) (h1 : i.toInt < 8) : -1 ≤ v.toInt ∧ v.toInt ≤ 60 := by
  have := i_cl h0
  rw [e]
  exact h _ (by omega)
theorem okS_up {ss : Nat → Int32} (h : okS ss) {n : Int32} (k : Nat) (h0 : -1 ≤ n.toInt) (h1 : n.toInt ≤ 60) : okS (upd ss k n) := by
  intro j hj
  by_cases e : j = k
  · subst e; rw [upd_s]; exact ⟨h0, h1⟩
  · rw [upd_n _ _ e]; exact h j hj

def sp_sheet (lf : Int32) (rs : Nat → Nat → Int32) (sl ss : Nat → Int32) (a b n : Int32) : Int32 × Int32 × (Nat → Nat → Int32) × (Nat → Int32) × (Nat → Int32) := if 0 ≤ a.toInt ∧ a.toInt < 8 ∧ 0 ≤ b.toInt ∧ b.toInt < 3 ∧ n.toInt ≤ 60 then (if n.toInt < 0 then (-1000014, 4, rs, sl, ss) else (n, 0, upR rs a.toNatClampNeg (fun _ => 0), upd sl a.toNatClampNeg b, upd ss a.toNatClampNeg n)) else (-1000001, lf, rs, sl, ss)

/-- what a lane keeps of a number -/
def kept (t v : Int32) : Int32 := if t.toInt = 0 then v.toInt8.toInt32 else if t.toInt = 1 then v.toInt16.toInt32 else v

def sp_set (lf : Int32) (rs : Nat → Nat → Int32) (sl ss : Nat → Int32) (a i v : Int32) : Int32 × Int32 × (Nat → Nat → Int32) := if 0 ≤ a.toInt ∧ a.toInt < 8 then (if (ss a.toNatClampNeg).toInt = -1 then (-1000011, 1, rs) else if 0 ≤ i.toInt ∧ i.toInt + 1 ≤ (ss a.toNatClampNeg).toInt then (kept (sl a.toNatClampNeg) v, 0, upR rs a.toNatClampNeg (upd (rs a.toNatClampNeg) i.toNatClampNeg (kept (sl a.toNatClampNeg) v))) else (-1000012, 2, rs)) else (-1000001, lf, rs)
def sp_drop (lf : Int32) (ss : Nat → Int32) (a : Int32) : Int32 × Int32 × (Nat → Int32) := if 0 ≤ a.toInt ∧ a.toInt < 8 then (if (ss a.toNatClampNeg).toInt = -1 then (-1000011, 1, ss) else (ss a.toNatClampNeg, 0, upd ss a.toNatClampNeg (-1))) else (-1000001, lf, ss)
def sp_copy (lf : Int32) (rs : Nat → Nat → Int32) (sl ss : Nat → Int32) (a i b j n : Int32) : Int32 × Int32 × (Nat → Nat → Int32) := if 0 ≤ a.toInt ∧ a.toInt < 8 ∧ 0 ≤ b.toInt ∧ b.toInt < 8 then (if (ss a.toNatClampNeg).toInt = -1 ∨ (ss b.toNatClampNeg).toInt = -1 then (-1000011, 1, rs) else if ¬ (sl a.toNatClampNeg).toInt = (sl b.toNatClampNeg).toInt then (-1000015, 5, rs) else if 0 ≤ i.toInt ∧ 0 ≤ n.toInt ∧ i.toInt + n.toInt ≤ (ss a.toNatClampNeg).toInt ∧ 0 ≤ j.toInt ∧ j.toInt + n.toInt ≤ (ss b.toNatClampNeg).toInt then (n, 0, upR rs b.toNatClampNeg (va_cpy (rs a.toNatClampNeg) (rs b.toNatClampNeg) i.toNatClampNeg j.toNatClampNeg n.toNatClampNeg)) else (-1000012, 2, rs)) else (-1000001, lf, rs)


theorem sp_hold_ok {hn : Int32} {ho hc hp hs : Nat → Int32} {o k q d r hn' : Int32} {ho' hc' hp' hs' : Nat → Int32} (e : (r, hn', ho', hc', hp', hs') = sp_hold hn ho hc hp hs o k q d) (h1 : 0 ≤ hn.toInt) (h2 : hn.toInt ≤ 40) (h3 : okH hn ho hc) : 0 ≤ hn'.toInt ∧ hn'.toInt ≤ 40 ∧ okH hn' ho' hc' := by
  unfold sp_hold at e
  have ch := i_cl h1
  split at e
  · split at e
    · simp only [Prod.mk.injEq] at e
      obtain ⟨-, rfl, rfl, rfl, -, -⟩ := e
      exact ⟨h1, h2, h3⟩
    · rename_i g1 g2
      have k1 : (1 : Int32).toInt = 1 := rfl
      have t1 : (hn + 1).toInt = hn.toInt + 1 := by rw [i_add (by omega) (by omega), k1]
      simp only [Prod.mk.injEq] at e
      obtain ⟨-, rfl, rfl, rfl, -, -⟩ := e
      refine ⟨by omega, by omega, fun j hj => ?_⟩
      by_cases hk : j = hn.toNatClampNeg
      · subst hk; rw [upd_s, upd_s]; omega
      · rw [upd_n _ _ hk, upd_n _ _ hk]; exact h3 j (by omega)
  · simp only [Prod.mk.injEq] at e
    obtain ⟨-, rfl, rfl, rfl, -, -⟩ := e
    exact ⟨h1, h2, h3⟩


theorem sp_hold_pos {hn : Int32} {ho hc hp hs : Nat → Int32} {o k q d r hn' : Int32} {ho' hc' hp' hs' : Nat → Int32} (e : (r, hn', ho', hc', hp', hs') = sp_hold hn ho hc hp hs o k q d) (h1 : 0 ≤ hn.toInt) (h2 : hn.toInt ≤ 40) : r.toInt < 0 ∨ 0 < r.toInt := by
  unfold sp_hold at e
  split at e
  · split at e
    · simp only [Prod.mk.injEq] at e
      obtain ⟨rfl, -⟩ := e
      exact Or.inl (by decide)
    · rename_i g1 g2
      have k1 : (1 : Int32).toInt = 1 := rfl
      have t1 : (hn + 1).toInt = hn.toInt + 1 := by rw [i_add (by omega) (by omega), k1]
      simp only [Prod.mk.injEq] at e
      obtain ⟨rfl, -⟩ := e
      exact Or.inr (by omega)
  · simp only [Prod.mk.injEq] at e
    obtain ⟨rfl, -⟩ := e
    exact Or.inl (by decide)
/-- n holdings told, one after the other, out of the items it from place i on -/
def foldH (it : Nat → Int32) (i : Nat) (hn : Int32) (ho hc hp hs : Nat → Int32) : Nat → Int32 × Int32 × (Nat → Int32) × (Nat → Int32) × (Nat → Int32) × (Nat → Int32)
  | 0 => (0, hn, ho, hc, hp, hs)
  | k + 1 => (if 0 < (sp_hold (foldH it i hn ho hc hp hs k).2.1 (foldH it i hn ho hc hp hs k).2.2.1 (foldH it i hn ho hc hp hs k).2.2.2.1 (foldH it i hn ho hc hp hs k).2.2.2.2.1 (foldH it i hn ho hc hp hs k).2.2.2.2.2 (it (i + 4 * k)) (it (i + 4 * k + 1)) (it (i + 4 * k + 2)) (it (i + 4 * k + 3))).1.toInt then (foldH it i hn ho hc hp hs k).1 + 1 else (foldH it i hn ho hc hp hs k).1, (sp_hold (foldH it i hn ho hc hp hs k).2.1 (foldH it i hn ho hc hp hs k).2.2.1 (foldH it i hn ho hc hp hs k).2.2.2.1 (foldH it i hn ho hc hp hs k).2.2.2.2.1 (foldH it i hn ho hc hp hs k).2.2.2.2.2 (it (i + 4 * k)) (it (i + 4 * k + 1)) (it (i + 4 * k + 2)) (it (i + 4 * k + 3))).2)
theorem foldH_s {it : Nat → Int32} {i k : Nat} {hn c hnq r hn' x0 x1 x2 x3 : Int32} {ho hc hp hs hoq hcq hpq hsq ho' hc' hp' hs' : Nat → Int32} (h : (c, hnq, hoq, hcq, hpq, hsq) = foldH it i hn ho hc hp hs k) (e : (r, hn', ho', hc', hp', hs') = sp_hold hnq hoq hcq hpq hsq x0 x1 x2 x3) (e0 : x0 = it (i + 4 * k)) (e1 : x1 = it (i + 4 * k + 1)) (e2 : x2 = it (i + 4 * k + 2)) (e3 : x3 = it (i + 4 * k + 3)) (c' : Int32) (hc9 : c' = if 0 < r.toInt then c + 1 else c) : (c', hn', ho', hc', hp', hs') = foldH it i hn ho hc hp hs (k + 1) := by
  subst e0 e1 e2 e3
  show _ = (_, _)
  rw [← h, ← e, hc9]
theorem foldH_c {it jt : Nat → Int32} {i j : Nat} {hn : Int32} {ho hc hp hs : Nat → Int32} (n : Nat) (h : ∀ k, k < 4 * n → it (i + k) = jt (j + k)) : foldH it i hn ho hc hp hs n = foldH jt j hn ho hc hp hs n := by
  induction n with
  | zero => rfl
  | succ n ih =>
    have h0 := h (4 * n) (by omega)
    have h1 := h (4 * n + 1) (by omega)
    have h2 := h (4 * n + 2) (by omega)
    have h3 := h (4 * n + 3) (by omega)
    show (_, _) = (_, _)
    rw [ih (fun k hk => h k (by omega)), h0, show i + 4 * n + 1 = i + (4 * n + 1) by omega, show i + 4 * n + 2 = i + (4 * n + 2) by omega, show i + 4 * n + 3 = i + (4 * n + 3) by omega, h1, h2, h3]
    rfl
def sp_holds (lf : Int32) (rs : Nat → Nat → Int32) (ss : Nat → Int32) (hn : Int32) (ho hc hp hs : Nat → Int32) (a i n : Int32) : Int32 × Int32 × Int32 × (Nat → Int32) × (Nat → Int32) × (Nat → Int32) × (Nat → Int32) :=
  if 0 ≤ a.toInt ∧ a.toInt < 8 ∧ 1 ≤ n.toInt ∧ n.toInt ≤ 15 then
    (if (ss a.toNatClampNeg).toInt = -1 then (-1000011, 1, hn, ho, hc, hp, hs)
     else if 0 ≤ i.toInt ∧ i.toInt + 4 * n.toInt ≤ (ss a.toNatClampNeg).toInt then ((foldH (rs a.toNatClampNeg) i.toNatClampNeg hn ho hc hp hs n.toNatClampNeg).1, 0, (foldH (rs a.toNatClampNeg) i.toNatClampNeg hn ho hc hp hs n.toNatClampNeg).2)
     else (-1000012, 2, hn, ho, hc, hp, hs))
  else (-1000001, lf, hn, ho, hc, hp, hs)


def okM (mm : Nat → Int32) : Prop := ∀ j : Nat, j < 8 → 0 ≤ (mm j).toInt ∧ (mm j).toInt ≤ 60
theorem okM_at {ss : Nat → Int32} (h : okM ss) {i v : Int32} (e : v = ss i.toNatClampNeg) (h0 : 0 ≤ i.toInt) (h1 : i.toInt < 8) : 0 ≤ v.toInt ∧ v.toInt ≤ 60 := by
  have := i_cl h0
  rw [e]
  exact h _ (by omega)
theorem okM_up {ss : Nat → Int32} (h : okM ss) {n : Int32} (k : Nat) (h0 : 0 ≤ n.toInt) (h1 : n.toInt ≤ 60) : okM (upd ss k n) := by
  intro j hj
  by_cases e : j = k
  · subst e; rw [upd_s]; exact ⟨h0, h1⟩
  · rw [upd_n _ _ e]; exact h j hj
def an_sheet (a b n : Int32) : Int32 := if 0 ≤ a.toInt ∧ a.toInt < 8 ∧ 0 ≤ b.toInt ∧ b.toInt < 3 ∧ n.toInt ≤ 60 then (if n.toInt < 0 then -1000014 else n) else -1000001
/-- what sheet leaves -/
def ps_sheet (mst : Int32) (ml mm mi : Nat → Int32) (a b n mst' : Int32) (ml' mm' mi' : Nat → Int32) : Prop :=
  if 0 ≤ a.toInt ∧ a.toInt < 8 ∧ 0 ≤ b.toInt ∧ b.toInt < 3 ∧ n.toInt ≤ 60 then
    (if n.toInt < 0 then mst' = 4 ∧ ml' = ml ∧ mm' = mm ∧ mi' = mi
     else mst' = 0 ∧ ml' = upd ml a.toNatClampNeg b ∧ mm' = upd mm a.toNatClampNeg n ∧ ∀ q : Nat, mi' q = if 60 * a.toInt ≤ (q : Int) ∧ (q : Int) < 60 * a.toInt + 60 then 0 else mi q)
  else mst' = mst ∧ ml' = ml ∧ mm' = mm ∧ mi' = mi
theorem fillz {m mi : Nat → Int32} {A k k' : Int} {i : Nat} (h : ∀ q : Nat, m q = if A ≤ (q : Int) ∧ (q : Int) < A + k then 0 else mi q) (hi : (i : Int) = A + k) (hk : k' = k + 1) (h0 : 0 ≤ k) : ∀ q : Nat, upd m i 0 q = if A ≤ (q : Int) ∧ (q : Int) < A + k' then 0 else mi q := by
  intro q
  by_cases e : q = i
  · subst e
    rw [upd_s, if_pos (by omega)]
  · rw [upd_n _ _ e, h q]
    by_cases c : A ≤ (q : Int) ∧ (q : Int) < A + k
    · rw [if_pos c, if_pos (by omega)]
    · rw [if_neg c, if_neg (by omega)]
/-- what set answers and leaves -/
def ps_set (mst : Int32) (ml mm mi : Nat → Int32) (a i v r mst' : Int32) (mi' : Nat → Int32) : Prop :=
  if 0 ≤ a.toInt ∧ a.toInt < 8 then
    (if (ml a.toNatClampNeg).toInt < 0 then r = -1000011 ∧ mst' = 1 ∧ mi' = mi
     else if 0 ≤ i.toInt ∧ i.toInt + 1 ≤ (mm a.toNatClampNeg).toInt then r = kept (ml a.toNatClampNeg) v ∧ mst' = 0 ∧ mi' = upd mi (60 * a.toNatClampNeg + i.toNatClampNeg) r
     else r = -1000012 ∧ mst' = 2 ∧ mi' = mi)
  else r = -1000001 ∧ mst' = mst ∧ mi' = mi
def cpyd (mi : Nat → Int32) (A B : Nat) (lo hi : Int) : Nat → Int32 := fun q => if lo ≤ (q : Int) ∧ (q : Int) < hi then mi (q + A - B) else mi q
theorem cpyd_0 {mi : Nat → Int32} {A B : Nat} {lo hi : Int} (h : hi ≤ lo) : mi = cpyd mi A B lo hi := by
  funext q
  unfold cpyd
  rw [if_neg (by omega)]
theorem cpyd_up {m mi : Nat → Int32} {A B d s : Nat} {lo hi hi' : Int} (h : m = cpyd mi A B lo hi) (hd : (d : Int) = hi) (hh : hi' = hi + 1) (hl : lo ≤ hi) (hs : s + B = d + A) (hn : ¬ (lo ≤ (s : Int) ∧ (s : Int) < hi)) : upd m d (m s) = cpyd mi A B lo hi' := by
  subst h
  funext q
  by_cases e : q = d
  · subst e
    rw [upd_s]
    unfold cpyd
    rw [if_neg hn, if_pos (by omega)]
    congr 1
    omega
  · rw [upd_n _ _ e]
    unfold cpyd
    by_cases c : lo ≤ (q : Int) ∧ (q : Int) < hi
    · rw [if_pos c, if_pos (by omega)]
    · rw [if_neg c, if_neg (by omega)]
theorem cpyd_dn {m mi : Nat → Int32} {A B d s : Nat} {lo lo' hi : Int} (h : m = cpyd mi A B lo hi) (hd : (d : Int) + 1 = lo) (hh : lo' + 1 = lo) (hl : lo ≤ hi) (hs : s + B = d + A) (hn : ¬ (lo ≤ (s : Int) ∧ (s : Int) < hi)) : upd m d (m s) = cpyd mi A B lo' hi := by
  subst h
  funext q
  by_cases e : q = d
  · subst e
    rw [upd_s]
    unfold cpyd
    rw [if_neg hn, if_pos (by omega)]
    congr 1
    omega
  · rw [upd_n _ _ e]
    unfold cpyd
    by_cases c : lo ≤ (q : Int) ∧ (q : Int) < hi
    · rw [if_pos c, if_pos (by omega)]
    · rw [if_neg c, if_neg (by omega)]
/-- what copy answers and leaves -/
def ps_copy (mst : Int32) (ml mm mi : Nat → Int32) (a i b j n r mst' : Int32) (mi' : Nat → Int32) : Prop :=
  if 0 ≤ a.toInt ∧ a.toInt < 8 ∧ 0 ≤ b.toInt ∧ b.toInt < 8 then
    (if (ml a.toNatClampNeg).toInt < 0 ∨ (ml b.toNatClampNeg).toInt < 0 then r = -1000011 ∧ mst' = 1 ∧ mi' = mi
     else if ¬ (ml a.toNatClampNeg).toInt = (ml b.toNatClampNeg).toInt then r = -1000015 ∧ mst' = 5 ∧ mi' = mi
     else if 0 ≤ i.toInt ∧ 0 ≤ n.toInt ∧ i.toInt + n.toInt ≤ (mm a.toNatClampNeg).toInt ∧ 0 ≤ j.toInt ∧ j.toInt + n.toInt ≤ (mm b.toNatClampNeg).toInt then r = n ∧ mst' = 0 ∧ mi' = cpyd mi (60 * a.toNatClampNeg + i.toNatClampNeg) (60 * b.toNatClampNeg + j.toNatClampNeg) (60 * b.toInt + j.toInt) (60 * b.toInt + j.toInt + n.toInt)
     else r = -1000012 ∧ mst' = 2 ∧ mi' = mi)
  else r = -1000001 ∧ mst' = mst ∧ mi' = mi
def sm_holds (mst : Int32) (ml mm mi : Nat → Int32) (hn : Int32) (ho hc hp hs : Nat → Int32) (a i n : Int32) : Int32 × Int32 × Int32 × (Nat → Int32) × (Nat → Int32) × (Nat → Int32) × (Nat → Int32) :=
  if 0 ≤ a.toInt ∧ a.toInt < 8 ∧ 1 ≤ n.toInt ∧ n.toInt ≤ 15 then
    (if (ml a.toNatClampNeg).toInt < 0 then (-1000011, 1, hn, ho, hc, hp, hs)
     else if 0 ≤ i.toInt ∧ i.toInt + 4 * n.toInt ≤ (mm a.toNatClampNeg).toInt then ((foldH mi (60 * a.toNatClampNeg + i.toNatClampNeg) hn ho hc hp hs n.toNatClampNeg).1, 0, (foldH mi (60 * a.toNatClampNeg + i.toNatClampNeg) hn ho hc hp hs n.toNatClampNeg).2)
     else (-1000012, 2, hn, ho, hc, hp, hs))
  else (-1000001, mst, hn, ho, hc, hp, hs)
/-- what drop answers and leaves -/
def ps_drop (mst : Int32) (ml mm : Nat → Int32) (a r mst' : Int32) (ml' : Nat → Int32) : Prop :=
  if 0 ≤ a.toInt ∧ a.toInt < 8 then
    (if (ml a.toNatClampNeg).toInt < 0 then r = -1000011 ∧ mst' = 1 ∧ ml' = ml else r = mm a.toNatClampNeg ∧ mst' = 0 ∧ ml' = upd ml a.toNatClampNeg (-1))
  else r = -1000001 ∧ mst' = mst ∧ ml' = ml


/-- the holding that counts, as the reference finds it -/
def bsV (ho hc hs : Nat → Int32) (d o c : Int32) : Nat → Int32
  | 0 => -1000000
  | n + 1 => if (ho n).toInt = o.toInt ∧ (hc n).toInt = c.toInt ∧ (hs n).toInt ≤ d.toInt ∧ ((bsV ho hc hs d o c n).toInt = -1000000 ∨ (hs (bsV ho hc hs d o c n).toNatClampNeg).toInt ≤ (hs n).toInt) then nI n else bsV ho hc hs d o c n
theorem bsV_s (ho hc hs : Nat → Int32) (d o c : Int32) (n : Nat) : bsV ho hc hs d o c (n + 1) = if (ho n).toInt = o.toInt ∧ (hc n).toInt = c.toInt ∧ (hs n).toInt ≤ d.toInt ∧ ((bsV ho hc hs d o c n).toInt = -1000000 ∨ (hs (bsV ho hc hs d o c n).toNatClampNeg).toInt ≤ (hs n).toInt) then nI n else bsV ho hc hs d o c n := rfl
def pmV (ho hc hp hs : Nat → Int32) (d o c : Int32) (n : Nat) : Int32 := if (bsV ho hc hs d o c n).toInt = -1000000 then 0 else hp (bsV ho hc hs d o c n).toNatClampNeg
def sm_percent (hn : Int32) (ho hc hp hs : Nat → Int32) (o k d : Int32) : Int32 := if 0 ≤ o.toInt ∧ o.toInt < 20 ∧ 10 ≤ k.toInt ∧ k.toInt < 20 ∧ ¬ o.toInt = k.toInt ∧ 0 ≤ d.toInt ∧ d.toInt < 10000 then pmV ho hc hp hs d o k hn.toNatClampNeg else -1000001


/-- the part that o has of company 10 + c on a day, as the reference finds it -/
def pmF (ho hc hp hs : Nat → Int32) (d : Int32) (n : Nat) : Nat → Nat → Int := fun o c => if o = c + 10 then 0 else (pmV ho hc hp hs d (nI o) (nI (c + 10)) n).toInt
def mhF (mh : Nat → Int32) : Nat → Nat → Int := fun o c => (mh (10 * o + c)).toInt
def okE (mh : Nat → Int32) : Prop := ∀ j : Nat, j < 200 → 0 ≤ (mh j).toInt ∧ (mh j).toInt ≤ 100
theorem okE_p {mh : Nat → Int32} (h : okE mh) : okp (mhF mh) := fun o c ho hc => h _ (by omega)
def fhQ (ho hc hp hs : Nat → Int32) (d : Int32) (n : Nat) (mh : Nat → Int32) (O C : Nat) : Prop := ∀ o c : Nat, o < 20 → c < 10 → (o < O ∨ (o = O ∧ c < C)) → mhF mh o c = pmF ho hc hp hs d n o c
theorem fhQ_0 {ho hc hp hs : Nat → Int32} {d : Int32} {n : Nat} {mh : Nat → Int32} : fhQ ho hc hp hs d n mh 0 0 := fun o c _ _ h => by omega
theorem fhQ_up {ho hc hp hs : Nat → Int32} {d : Int32} {n : Nat} {mh : Nat → Int32} {O C C' i : Nat} {x : Int32} (h : fhQ ho hc hp hs d n mh O C) (hC : C < 10) (hi : i = 10 * O + C) (hC' : C' = C + 1) (hx : x.toInt = pmF ho hc hp hs d n O C) : fhQ ho hc hp hs d n (upd mh i x) O C' := by
  intro o c h1 h2 h3
  by_cases e : 10 * o + c = i
  · have e1 : o = O := by omega
    have e2 : c = C := by omega
    show (upd mh i x (10 * o + c)).toInt = _
    rw [e, upd_s, e1, e2]
    exact hx
  · show (upd mh i x (10 * o + c)).toInt = _
    rw [upd_n _ _ e]
    exact h o c h1 h2 (by omega)
theorem fhQ_nx {ho hc hp hs : Nat → Int32} {d : Int32} {n : Nat} {mh : Nat → Int32} {O O' : Nat} (h : fhQ ho hc hp hs d n mh O 10) (e : O' = O + 1) : fhQ ho hc hp hs d n mh O' 0 := fun o c h1 h2 h3 => h o c h1 h2 (by omega)
theorem bs_rng {ho hc hs : Nat → Int32} {d o c : Int32} (n : Nat) (hn : n ≤ 40) : (bsV ho hc hs d o c n).toInt = -1000000 ∨ (0 ≤ (bsV ho hc hs d o c n).toInt ∧ (bsV ho hc hs d o c n).toInt < n) := by
  induction n with
  | zero => exact Or.inl rfl
  | succ n ih =>
    have ih := ih (by omega)
    have c1 := nI_toInt (n := n) (by omega)
    rw [bsV_s]
    split
    · omega
    · omega
theorem pm_bd {ho hc hp hs : Nat → Int32} {d hn o c : Int32} (hv : okV hn hp) (h0 : 0 ≤ hn.toInt) (h1 : hn.toInt ≤ 40) : 0 ≤ (pmV ho hc hp hs d o c hn.toNatClampNeg).toInt ∧ (pmV ho hc hp hs d o c hn.toNatClampNeg).toInt ≤ 100 := by
  have ch := i_cl h0
  unfold pmV
  split
  · decide
  · rename_i g
    have r := bs_rng (ho := ho) (hc := hc) (hs := hs) (d := d) (o := o) (c := c) hn.toNatClampNeg (by omega)
    rcases r with r | ⟨r1, r2⟩
    · exact absurd r g
    · have c9 := i_cl r1
      exact hv _ (by omega)
theorem pmF_bd {ho hc hp hs : Nat → Int32} {d hn : Int32} (hv : okV hn hp) (h0 : 0 ≤ hn.toInt) (h1 : hn.toInt ≤ 40) : okp (pmF ho hc hp hs d hn.toNatClampNeg) := fun o c _ _ => by
  unfold pmF
  split
  · omega
  · exact pm_bd hv h0 h1
theorem okE_of {ho hc hp hs mh : Nat → Int32} {d hn : Int32} (h : fhQ ho hc hp hs d hn.toNatClampNeg mh 20 0) (hv : okV hn hp) (h0 : 0 ≤ hn.toInt) (h1 : hn.toInt ≤ 40) : okE mh := by
  intro j hj
  have e : j = 10 * (j / 10) + j % 10 := by omega
  have h9 := h (j / 10) (j % 10) (by omega) (by omega) (by omega)
  have h8 := pmF_bd (ho := ho) (hc := hc) (hs := hs) (d := d) hv h0 h1 (j / 10) (j % 10) (by omega) (by omega)
  unfold mhF at h9
  rw [← e] at h9
  omega
theorem mhF_pm {ho hc hp hs mh : Nat → Int32} {d : Int32} {n : Nat} (h : fhQ ho hc hp hs d n mh 20 0) : ∀ o c, o < 20 → c < 10 → mhF mh o c = pmF ho hc hp hs d n o c := fun o c h1 h2 => h o c h1 h2 (by omega)
theorem pdivL {x w z : Int64} {b : Int32} (e1 : w = x * b.toInt64) (e2 : z = w / 100) (h0 : 0 ≤ x.toInt) (h1 : x.toInt ≤ 1000000) (h2 : 0 ≤ b.toInt) (h3 : b.toInt ≤ 100) : z.toInt = x.toInt * b.toInt / 100 := by
  have hb := mul_bd h0 h1 h2 h3
  have hw : w.toInt = x.toInt * b.toInt := by
    rw [e1, Int64.toInt_mul, i_w]
    exact l_bmod (by omega) (by omega)
  have k100 : (100 : Int64).toInt = 100 := by decide
  rw [e2, Int64.toInt_div, k100, hw, Int.tdiv_eq_ediv_of_nonneg hb.1]
  exact l_bmod (by omega) (by omega)
theorem gL_no {p : Nat → Nat → Int} {t : Nat} {mp : Nat → Int32} {mf : Nat → Int64} {i c : Nat} (h : ¬ 0 < p (mp i).toNatClampNeg c) : gL p t mp mf i c = 0 := alT_0 (fun z => h z.1)
theorem gL_on {p : Nat → Nat → Int} {t : Nat} {mp : Nat → Int32} {mf : Nat → Int64} {i c : Nat} (h : onP mp i c = true) : gL p t mp mf i c = 0 := alT_0 (fun z => by have z2 := z.2; rw [h] at z2; exact absurd z2 (by decide))
theorem gL_t {p : Nat → Nat → Int} {t : Nat} {mp : Nat → Int32} {mf : Nat → Int64} {i c : Nat} (h1 : 0 < p (mp i).toNatClampNeg c) (h2 : onP mp i c = false) (e : c = t) : gL p t mp mf i c = (mf i).toInt * p (mp i).toNatClampNeg c / 100 := alT_t ⟨h1, by rw [h2]; rfl⟩ e
theorem gL_v0 {p : Nat → Nat → Int} {t : Nat} {mp : Nat → Int32} {mf : Nat → Int64} {i c : Nat} (h1 : 0 < p (mp i).toNatClampNeg c) (h2 : onP mp i c = false) (e : ¬ c = t) (hv : (mf i).toInt * p (mp i).toNatClampNeg c / 100 = 0) : gL p t mp mf i c = 0 := by
  have h9 : gL p t mp mf i c = alG p t (10 - i) (10 + c) ((mf i).toInt * p (mp i).toNatClampNeg c / 100) (fun y => !onP mp i y && !decide (y = c)) := alT_n ⟨h1, by rw [h2]; rfl⟩ e
  rw [h9, hv, alG_v0]
theorem df_end {p : Nat → Nat → Int} {t q : Nat} {sum : Int} {a met : Int32} {mp mt : Nat → Int32} {mf : Nat → Int64} (h : dfI p t q sum a met mp mt mf) (ha : a.toInt < 0) : sum = alG p t 11 q 1000000 (fun _ => true) := by
  have h1 := h.1
  rw [show (a.toInt + 1).toNat = 0 by omega] at h1
  have h2 : reS p t mp mt mf 0 = 0 := rfl
  omega
def sm_share (hn : Int32) (ho hc hp hs : Nat → Int32) (q o d : Int32) : Int := if 0 ≤ q.toInt ∧ q.toInt < 10 ∧ 0 ≤ o.toInt ∧ o.toInt < 20 ∧ 0 ≤ d.toInt ∧ d.toInt < 10000 then shF (pmF ho hc hp hs d hn.toNatClampNeg) q.toNatClampNeg o.toNatClampNeg else -1000001
def sm_truly (hn : Int32) (ho hc hp hs : Nat → Int32) (o d : Int32) : Int := if 0 ≤ o.toInt ∧ o.toInt < 20 ∧ 0 ≤ d.toInt ∧ d.toInt < 10000 then (trV (pmF ho hc hp hs d hn.toNatClampNeg) o.toNatClampNeg 10).1 else -1000001
/-- some place below n -/
def anyP (P : Nat → Bool) : Nat → Bool
  | 0 => false
  | n + 1 => anyP P n || P n
theorem anyP_s (P : Nat → Bool) (n : Nat) : anyP P (n + 1) = (anyP P n || P n) := rfl
theorem anyP_iff (P : Nat → Bool) (n : Nat) : anyP P n = true ↔ ∃ a, a < n ∧ P a = true := by
  induction n with
  | zero => exact ⟨fun h => absurd h (by show ¬ (false = true); decide), fun h => by obtain ⟨a, h1, -⟩ := h; omega⟩
  | succ n ih =>
    rw [anyP_s, Bool.or_eq_true, ih]
    constructor
    · rintro (⟨a, h1, h2⟩ | h)
      · exact ⟨a, by omega, h2⟩
      · exact ⟨n, by omega, h⟩
    · rintro ⟨a, h1, h2⟩
      by_cases e : a = n
      · rw [e] at h2; exact Or.inr h2
      · exact Or.inl ⟨a, by omega, h2⟩
/-- the companies met from c on, turn by turn -/
def mtV (E : Nat → Nat → Bool) (c : Nat) : Nat → Nat → Bool
  | 0 => fun _ => false
  | i + 1 => fun b => mtV E c i b || anyP (fun a => (mtV E c i a || decide (a = c)) && E a b) 10
theorem mtV_s (E : Nat → Nat → Bool) (c i b : Nat) : mtV E c (i + 1) b = (mtV E c i b || anyP (fun a => (mtV E c i a || decide (a = c)) && E a b) 10) := rfl
def sm_rings (hn : Int32) (ho hc hp hs : Nat → Int32) (d r : Int32) : Prop := if 0 ≤ d.toInt ∧ d.toInt < 10000 then (∀ i : Nat, i < 32 → bt r i = (decide (i < 10) && mtV (ppB (pmF ho hc hp hs d hn.toNatClampNeg)) i 11 i)) else r.toInt = -1000001
/-- the companies met so far, as bits -/
def mtQ (E : Nat → Nat → Bool) (c : Nat) (met : Int32) (i : Nat) : Prop := ∀ b : Nat, b < 32 → bt met b = mtV E c i b
/-- one turn, as far as place a, b -/
def mrQ (E : Nat → Nat → Bool) (c : Nat) (more : Int32) (i a b : Nat) : Prop := ∀ x : Nat, x < 32 → bt more x = (mtV E c i x || (anyP (fun y => (mtV E c i y || decide (y = c)) && E y x) a || ((mtV E c i a || decide (a = c)) && E a x && decide (x < b))))
theorem mrQ_0 {E : Nat → Nat → Bool} {c : Nat} {met : Int32} {i : Nat} (h : mtQ E c met i) : mrQ E c met i 0 0 := by
  intro x hx
  rw [h x hx, decide_eq_false (show ¬ x < 0 by omega), Bool.and_false]
  show _ = (mtV E c i x || (false || false))
  cases mtV E c i x <;> rfl
theorem mrQ_end {E : Nat → Nat → Bool} {c : Nat} {more : Int32} {i j : Nat} (h : mrQ E c more i 10 0) (e : j = i + 1) : mtQ E c more j := by
  intro b hb
  rw [h b hb, e, mtV_s, decide_eq_false (show ¬ b < 0 by omega), Bool.and_false, Bool.or_false]
theorem mrQ_row {E : Nat → Nat → Bool} {c : Nat} {more : Int32} {i a a' b : Nat} (hE : ∀ x y, E x y = true → y < 10) (h : mrQ E c more i a b) (hb : 10 ≤ b ∨ (mtV E c i a || decide (a = c)) = false) (e : a' = a + 1) : mrQ E c more i a' 0 := by
  intro x hx
  rw [h x hx, e, anyP_s, decide_eq_false (show ¬ x < 0 by omega), Bool.and_false, Bool.or_false]
  congr 2
  rcases hb with hb | hb
  · cases q : E a x with
    | false => rw [Bool.and_false]; rfl
    | true => rw [decide_eq_true (show x < b by have := hE a x q; omega), Bool.and_true]
  · rw [hb]; rfl
theorem mrQ_up {E : Nat → Nat → Bool} {c : Nat} {more w : Int32} {i a b b' : Nat} {y : Int32} (h : mrQ E c more i a b) (hg : (mtV E c i a || decide (a = c)) = true) (hy : y.toInt = b) (h9 : b < 10) (e : b' = b + 1) (hE : E a b = true) (hw : w = more ||| ((1 : Int32) <<< (y &&& 31))) : mrQ E c w i a b' := by
  have cy := i_cl (x := y) (by omega)
  intro x hx
  rw [hw, bt_set (by omega) (by omega) hx, h x hx, hg, e, show y.toNatClampNeg = b by omega]
  by_cases q : x = b
  · rw [q, hE, decide_eq_true rfl, decide_eq_true (show b < b + 1 by omega), decide_eq_false (show ¬ b < b by omega)]
    cases mtV E c i b <;> cases anyP (fun y => (mtV E c i y || decide (y = c)) && E y b) a <;> rfl
  · rw [decide_eq_false q, show decide (x < b + 1) = decide (x < b) from decide_eq_decide.mpr ⟨fun z => by omega, fun z => by omega⟩, Bool.or_false]
theorem mrQ_no {E : Nat → Nat → Bool} {c : Nat} {more : Int32} {i a b b' : Nat} (h : mrQ E c more i a b) (e : b' = b + 1) (hE : E a b = false) : mrQ E c more i a b' := by
  intro x hx
  rw [h x hx, e]
  by_cases q : x = b
  · rw [q, hE, Bool.and_false]; rfl
  · rw [show decide (x < b + 1) = decide (x < b) from decide_eq_decide.mpr ⟨fun z => by omega, fun z => by omega⟩]
theorem ppB_10 {p : Nat → Nat → Int} : ∀ x y, ppB p x y = true → y < 10 := fun x y h => (of_decide_eq_true h).1


theorem upd_same {f : Nat → Int32} {k : Nat} {x : Int32} (h : x = f k) : upd f k x = f := by
  funext j
  by_cases e : j = k
  · subst e; rw [upd_s, h]
  · rw [upd_n _ _ e]


/-- what stands in a room, as the reference adds it up -/
def insV (ro wo : Nat → Int32) (r w : Int32) : Nat → Int32
  | 0 => 0
  | n + 1 => insV ro wo r w n + (if ¬ (ro n).toInt = r.toInt then 0 else if w.toInt = 0 then 1 else if w.toInt = 1 then wo n else (1 : Int32) <<< (nI n &&& 31))
theorem insV_s (ro wo : Nat → Int32) (r w : Int32) (n : Nat) : insV ro wo r w (n + 1) = insV ro wo r w n + (if ¬ (ro n).toInt = r.toInt then 0 else if w.toInt = 0 then 1 else if w.toInt = 1 then wo n else (1 : Int32) <<< (nI n &&& 31)) := rfl
def sm_move (cn : Int32) (wo ro aw iw : Nat → Int32) (k q : Int32) : Int32 × (Nat → Int32) := if 0 ≤ k.toInt ∧ k.toInt < cn.toInt ∧ (q.toInt = -1000000 ∨ (0 ≤ q.toInt ∧ q.toInt < 6)) then (if (ro k.toNatClampNeg).toInt = q.toInt then (-1000002, ro) else if q.toInt = -1000000 ∨ ((insV ro wo q 0 cn.toNatClampNeg).toInt < (aw q.toNatClampNeg).toInt ∧ (insV ro wo q 1 cn.toNatClampNeg + wo k.toNatClampNeg).toInt ≤ (iw q.toNatClampNeg).toInt) then (ro k.toNatClampNeg, upd ro k.toNatClampNeg q) else (-1000003, ro)) else (-1000001, ro)
def sm_inside (cn : Int32) (wo ro : Nat → Int32) (q w : Int32) : Int32 := if 0 ≤ q.toInt ∧ q.toInt < 6 ∧ 0 ≤ w.toInt ∧ w.toInt < 3 then insV ro wo q w cn.toNatClampNeg else -1000001


/-- the crate drawn next, as the reference finds it -/
def bdV (ro : Nat → Int32) (lo : Nat → Int64) (set : Int32) : Nat → Int32
  | 0 => -1000000
  | n + 1 => if ¬ (ro n).toInt = -1000000 ∧ bt set n = false ∧ ((bdV ro lo set n).toInt = -1000000 ∨ (lo n).toInt < (lo (bdV ro lo set n).toNatClampNeg).toInt) then nI n else bdV ro lo set n
theorem bdV_s (ro : Nat → Int32) (lo : Nat → Int64) (set : Int32) (n : Nat) : bdV ro lo set (n + 1) = if ¬ (ro n).toInt = -1000000 ∧ bt set n = false ∧ ((bdV ro lo set n).toInt = -1000000 ∨ (lo n).toInt < (lo (bdV ro lo set n).toNatClampNeg).toInt) then nI n else bdV ro lo set n := rfl
/-- the crates drawn, one after the other -/
def dmV (ro : Nat → Int32) (lo : Nat → Int64) (cn : Nat) : Nat → Int32
  | 0 => 0
  | n + 1 => dmV ro lo cn n ||| (if (bdV ro lo (dmV ro lo cn n) cn).toInt = -1000000 then 0 else (1 : Int32) <<< (bdV ro lo (dmV ro lo cn n) cn &&& 31))
theorem dmV_s (ro : Nat → Int32) (lo : Nat → Int64) (cn n : Nat) : dmV ro lo cn (n + 1) = dmV ro lo cn n ||| (if (bdV ro lo (dmV ro lo cn n) cn).toInt = -1000000 then 0 else (1 : Int32) <<< (bdV ro lo (dmV ro lo cn n) cn &&& 31)) := rfl
def sm_drawn (sd cn : Int32) (ro : Nat → Int32) (d n : Int32) : Int32 := if 0 ≤ d.toInt ∧ d.toInt < 10000 ∧ 0 ≤ n.toInt ∧ n.toInt ≤ 12 then dmV ro (lotF sd d) cn.toNatClampNeg n.toNatClampNeg else -1000001
def omV (sd : Int32) (ro : Nat → Int32) (cn : Nat) (k n : Int32) (A : Nat) : Nat → Int32
  | 0 => 0
  | j + 1 => omV sd ro cn k n A j + ((dmV ro (lotF sd (nI (A + j))) cn n.toNatClampNeg >>> (k &&& 31)) &&& 1)
theorem omV_s (sd : Int32) (ro : Nat → Int32) (cn : Nat) (k n : Int32) (A j : Nat) : omV sd ro cn k n A (j + 1) = omV sd ro cn k n A j + ((dmV ro (lotF sd (nI (A + j))) cn n.toNatClampNeg >>> (k &&& 31)) &&& 1) := rfl
def sm_often (sd cn : Int32) (ro : Nat → Int32) (k a b n : Int32) : Int32 := if 0 ≤ k.toInt ∧ k.toInt < cn.toInt ∧ 0 ≤ a.toInt ∧ b.toInt < 10000 ∧ a.toInt ≤ b.toInt ∧ b.toInt - a.toInt < 400 ∧ 0 ≤ n.toInt ∧ n.toInt ≤ 12 then omV sd ro cn.toNatClampNeg k n a.toNatClampNeg (b.toNatClampNeg - a.toNatClampNeg + 1) else -1000001


/-- the bits of a number, as the reference counts them -/
def bmV (a : Int32) : Nat → Int32
  | 0 => 0
  | n + 1 => bmV a n + ((a >>> (nI n &&& 31)) &&& 1)
theorem bmV_s (a : Int32) (n : Nat) : bmV a (n + 1) = bmV a n + ((a >>> (nI n &&& 31)) &&& 1) := rfl


def cnL (b : Bool) (s : Int32 × (Nat → Int32)) (a : Int32) : Int32 × (Nat → Int32) := if b = true then lvT s a else s
theorem cnL_t {P : Prop} [Decidable P] {s u : Int32 × (Nat → Int32)} {a : Int32} (h : P) (e : u = lvT s a) : u = cnL (decide P) s a := by
  unfold cnL
  rw [if_pos (decide_eq_true h), e]
theorem cnL_f {P : Prop} [Decidable P] {s : Int32 × (Nat → Int32)} {a : Int32} (h : ¬ P) : s = cnL (decide P) s a := by
  unfold cnL
  rw [if_neg (by rw [decide_eq_false h]; decide)]
def mkM (w wo ow : Int32) (s : Int32 × (Nat → Int32)) : Int32 × Int32 × (Nat → Int32) := (ow + (if w.toInt = 1 ∨ w.toInt = 2 then 100 else if w.toInt = 3 then 1000 else if w.toInt = 4 then wo else 0), cnL (decide (w.toInt = 4)) (lvT (cnL (decide (w.toInt = 4)) (cnL (decide (w.toInt = 3)) (cnL (decide (w.toInt = 1 ∨ w.toInt = 2)) s 21) 22) 23) 20) 10)
def szM (w wo su ow : Int32) (s : Int32 × (Nat → Int32)) : Int32 × Int32 × (Nat → Int32) := if w.toInt = 3 then (-(mkM w wo ow (lvT s 13)).1, (mkM w wo ow (lvT s 13)).2) else (if w.toInt = 2 then (wo - su) / 2 else wo - su, lvT (cnL (decide (w.toInt = 1 ∨ w.toInt = 2)) (cnL (decide (w.toInt = 2)) s 12) 11) 10)


theorem or_z9 (x : Int32) : x ||| 0 = x := by
  apply b_ext
  intro i hi
  rw [b_or, b_0, Bool.or_false]
/-- the bit at c, as the reference reads it -/
theorem bit19 {x c : Int32} (h0 : 0 ≤ c.toInt) (h1 : c.toInt < 32) : (((x >>> (c &&& 31)) &&& 1).toInt = 1 → bt x c.toNatClampNeg = true) ∧ (¬ ((x >>> (c &&& 31)) &&& 1).toInt = 1 → bt x c.toNatClampNeg = false) := by
  have hb := bt_bit (x := x) h0 h1
  have k1 : (1 : Int32).toInt = 1 := rfl
  cases e : bt x c.toNatClampNeg with
  | false =>
    rw [hb.mpr e]
    exact ⟨fun h => absurd h (by decide), fun _ => rfl⟩
  | true =>
    refine ⟨fun _ => rfl, fun h => ?_⟩
    exfalso
    apply h
    have hc := i_cl h0
    have e2 : x >>> (c &&& 31) = x >>> (nI c.toNatClampNeg &&& 31) := by rw [i_nI h0]
    have key : bt (x >>> (c &&& 31)) 0 = bt x c.toNatClampNeg := by rw [e2, b_sshr c.toNatClampNeg (by omega) x (by omega), if_pos (by omega), Nat.add_zero]
    have : (x >>> (c &&& 31)) &&& 1 = 1 := by
      apply b_ext
      intro i hi
      rw [b_and, bt_1 i hi]
      by_cases g : i = 0
      · rw [g, key, e]; rfl
      · rw [decide_eq_false g, Bool.and_false]
    rw [this, k1]
def rmQ (E : Nat → Nat → Bool) (r : Int32) (n : Nat) : Prop := ∀ i : Nat, i < 32 → bt r i = (decide (i < n) && mtV E i 11 i)
theorem rmQ_0 {E : Nat → Nat → Bool} : rmQ E 0 0 := fun i hi => by rw [b_0, decide_eq_false (by omega)]; rfl
theorem rmQ_up {E : Nat → Nat → Bool} {r w c : Int32} {n m : Nat} (h : rmQ E r n) (hc : c.toInt = n) (hn : n < 10) (hm : m = n + 1) (hb : mtV E n 11 n = true) (hw : w = r ||| ((1 : Int32) <<< (c &&& 31))) : rmQ E w m := by
  have cc := i_cl (x := c) (by omega)
  intro i hi
  rw [hw, bt_set (by omega) (by omega) hi, h i hi, hm, show c.toNatClampNeg = n by omega]
  by_cases e : i = n
  · rw [e, hb]; simp
  · by_cases l : i < n
    · simp [e, l, show i < n + 1 by omega]
    · simp [e, l, show ¬ i < n + 1 by omega]
theorem rmQ_no {E : Nat → Nat → Bool} {r : Int32} {n m : Nat} (h : rmQ E r n) (hm : m = n + 1) (hb : mtV E n 11 n = false) : rmQ E r m := by
  intro i hi
  rw [h i hi, hm]
  by_cases e : i = n
  · rw [e, hb]; simp
  · by_cases l : i < n
    · simp [l, show i < n + 1 by omega]
    · simp [l, show ¬ i < n + 1 by omega]
theorem mtQ_0 {E : Nat → Nat → Bool} {c : Nat} : mtQ E c 0 0 := fun b hb => by rw [b_0]; rfl


/-- the paper that comes next, as the reference finds it -/
def nxV (pk pd pe : Nat → Int32) (k n : Int32) (met : Int64) : Nat → Int32
  | 0 => -1000000
  | m + 1 => if (pk m).toInt = k.toInt ∧ (pe m).toInt ≤ n.toInt ∧ btL met m = false ∧ ((nxV pk pd pe k n met m).toInt = -1000000 ∨ (pd m).toInt < (pd (nxV pk pd pe k n met m).toNatClampNeg).toInt ∨ ((pd m).toInt = (pd (nxV pk pd pe k n met m).toNatClampNeg).toInt ∧ (pe m).toInt < (pe (nxV pk pd pe k n met m).toNatClampNeg).toInt)) then nI m else nxV pk pd pe k n met m
theorem nxV_s (pk pd pe : Nat → Int32) (k n : Int32) (met : Int64) (m : Nat) : nxV pk pd pe k n met (m + 1) = if (pk m).toInt = k.toInt ∧ (pe m).toInt ≤ n.toInt ∧ btL met m = false ∧ ((nxV pk pd pe k n met m).toInt = -1000000 ∨ (pd m).toInt < (pd (nxV pk pd pe k n met m).toNatClampNeg).toInt ∨ ((pd m).toInt = (pd (nxV pk pd pe k n met m).toNatClampNeg).toInt ∧ (pe m).toInt < (pe (nxV pk pd pe k n met m).toNatClampNeg).toInt)) then nI m else nxV pk pd pe k n met m := rfl
/-- the papers known, one after the other: the owner on the day, and how many quarrel -/
def ooV (pk pf po pd pe : Nat → Int32) (pn : Nat) (k d n : Int32) : Nat → Int64 → Int32 → Int32 → Int32 → Int32 × Int32
  | 0, _, _, t, q => (t, q)
  | f + 1, met, w, t, q => if (nxV pk pd pe k n met pn).toInt = -1000000 then (t, q) else if (pf (nxV pk pd pe k n met pn).toNatClampNeg).toInt = w.toInt then ooV pk pf po pd pe pn k d n f (met ||| ((1 : Int64) <<< ((nxV pk pd pe k n met pn).toInt64 &&& 63))) (po (nxV pk pd pe k n met pn).toNatClampNeg) (if (pd (nxV pk pd pe k n met pn).toNatClampNeg).toInt ≤ d.toInt then po (nxV pk pd pe k n met pn).toNatClampNeg else t) q else ooV pk pf po pd pe pn k d n f (met ||| ((1 : Int64) <<< ((nxV pk pd pe k n met pn).toInt64 &&& 63))) w t (q + 1)
theorem ooV_s (pk pf po pd pe : Nat → Int32) (pn : Nat) (k d n : Int32) (f : Nat) (met : Int64) (w t q : Int32) : ooV pk pf po pd pe pn k d n (f + 1) met w t q = if (nxV pk pd pe k n met pn).toInt = -1000000 then (t, q) else if (pf (nxV pk pd pe k n met pn).toNatClampNeg).toInt = w.toInt then ooV pk pf po pd pe pn k d n f (met ||| ((1 : Int64) <<< ((nxV pk pd pe k n met pn).toInt64 &&& 63))) (po (nxV pk pd pe k n met pn).toNatClampNeg) (if (pd (nxV pk pd pe k n met pn).toNatClampNeg).toInt ≤ d.toInt then po (nxV pk pd pe k n met pn).toNatClampNeg else t) q else ooV pk pf po pd pe pn k d n f (met ||| ((1 : Int64) <<< ((nxV pk pd pe k n met pn).toInt64 &&& 63))) w t (q + 1) := rfl
theorem nbL_0 : nbL 0 40 = 0 := by decide +kernel
def sm_owner (cn pn : Int32) (fo pk pf po pd pe : Nat → Int32) (k d n : Int32) : Int32 := if 0 ≤ k.toInt ∧ k.toInt < cn.toInt ∧ 0 ≤ d.toInt ∧ d.toInt < 10000 ∧ 0 ≤ n.toInt ∧ n.toInt < 10000 then (ooV pk pf po pd pe pn.toNatClampNeg k d n 41 0 (fo k.toNatClampNeg) (fo k.toNatClampNeg) 0).1 else -1000001
def sm_quarrels (cn pn : Int32) (fo pk pf po pd pe : Nat → Int32) (k n : Int32) : Int32 := if 0 ≤ k.toInt ∧ k.toInt < cn.toInt ∧ 0 ≤ n.toInt ∧ n.toInt < 10000 then (ooV pk pf po pd pe pn.toNatClampNeg k 0 n 41 0 (fo k.toNatClampNeg) (fo k.toNatClampNeg) 0).2 else -1000001


theorem ver_step {uk : Nat → Int32} {k i b : Int32} (h : ∀ j : Nat, (j : Int) < i.toInt → ¬ uk j = k) (h0 : 0 ≤ i.toInt) (hb : b.toInt = i.toInt + 1) (hv : ¬ uk i.toNatClampNeg = k) : ∀ j : Nat, (j : Int) < b.toInt → ¬ uk j = k := by
  intro j hj
  have := i_cl h0
  by_cases e : (j : Int) < i.toInt
  · exact h j e
  · have e8 : j = i.toNatClampNeg := by omega
    subst e8; exact hv


def onV (uk uy : Nat → Int32) (k : Int32) : Nat → Int32
  | 0 => -1000000
  | n + 1 => if (uk n).toInt = k.toInt ∧ ((onV uk uy k n).toInt = -1000000 ∨ (uy n).toInt < (uy (onV uk uy k n).toNatClampNeg).toInt) then nI n else onV uk uy k n
theorem onV_s (uk uy : Nat → Int32) (k : Int32) (n : Nat) : onV uk uy k (n + 1) = if (uk n).toInt = k.toInt ∧ ((onV uk uy k n).toInt = -1000000 ∨ (uy n).toInt < (uy (onV uk uy k n).toNatClampNeg).toInt) then nI n else onV uk uy k n := rfl
def cvF (far mis : Int32) : Int32 := if 100 < far.toInt ∨ 1 < mis.toInt then 2 else if 10 < far.toInt ∨ 0 < mis.toInt then 1 else 0
theorem cvF_2 {far mis : Int32} (h : 100 < far.toInt ∨ 1 < mis.toInt) : 2 = cvF far mis := by unfold cvF; rw [if_pos h]
theorem cvF_1 {far mis : Int32} (h : ¬ (100 < far.toInt ∨ 1 < mis.toInt)) (h1 : 10 < far.toInt ∨ 0 < mis.toInt) : 1 = cvF far mis := by unfold cvF; rw [if_neg h, if_pos h1]
theorem cvF_0 {far mis : Int32} (h : ¬ (100 < far.toInt ∨ 1 < mis.toInt)) (h1 : ¬ (10 < far.toInt ∨ 0 < mis.toInt)) : 0 = cvF far mis := by unfold cvF; rw [if_neg h, if_neg h1]
def wmV (uk uw um : Nat → Int32) (k o : Int32) : Nat → Int32
  | 0 => 0
  | n + 1 => if (uk n).toInt = k.toInt ∧ ¬ (n : Int) = o.toInt then maxV (wmV uk uw um k o n) (cvF (absV (uw n - uw o.toNatClampNeg)) (bmV (um o.toNatClampNeg &&& (um n ^^^ (-1))) 12)) else wmV uk uw um k o n
theorem wmV_s (uk uw um : Nat → Int32) (k o : Int32) (n : Nat) : wmV uk uw um k o (n + 1) = if (uk n).toInt = k.toInt ∧ ¬ (n : Int) = o.toInt then maxV (wmV uk uw um k o n) (cvF (absV (uw n - uw o.toNatClampNeg)) (bmV (um o.toNatClampNeg &&& (um n ^^^ (-1))) 12)) else wmV uk uw um k o n := rfl
def sm_verdict (cn un : Int32) (uk uy uw um : Nat → Int32) (k : Int32) : Int32 := if 0 ≤ k.toInt ∧ k.toInt < cn.toInt then wmV uk uw um k (onV uk uy k un.toNatClampNeg) un.toNatClampNeg else -1000001


theorem nxV_rng (pk pd pe : Nat → Int32) (k n : Int32) (met : Int64) (m : Nat) (hm : m ≤ 40) : (nxV pk pd pe k n met m).toInt = -1000000 ∨ (0 ≤ (nxV pk pd pe k n met m).toInt ∧ (nxV pk pd pe k n met m).toInt < m) := by
  induction m with
  | zero => exact Or.inl rfl
  | succ m ih =>
    have ih := ih (by omega)
    have c := nI_toInt (n := m) (by omega)
    rw [nxV_s]
    split <;> omega
theorem ooV_rng {pk pf po pd pe : Nat → Int32} {pn : Nat} {k d n : Int32} (hp : pn ≤ 40) (hg : ∀ j, j < pn → 0 ≤ (po j).toInt ∧ (po j).toInt < 20) (f : Nat) : ∀ (met : Int64) (w t q : Int32), 0 ≤ t.toInt → t.toInt < 20 → 0 ≤ (ooV pk pf po pd pe pn k d n f met w t q).1.toInt ∧ (ooV pk pf po pd pe pn k d n f met w t q).1.toInt < 20 := by
  induction f with
  | zero => exact fun _ _ _ _ h0 h1 => ⟨h0, h1⟩
  | succ f ih =>
    intro met w t q h0 h1
    rw [ooV_s]
    have r := nxV_rng pk pd pe k n met pn hp
    split
    · exact ⟨h0, h1⟩
    · rename_i g
      have r2 : 0 ≤ (nxV pk pd pe k n met pn).toInt ∧ (nxV pk pd pe k n met pn).toInt < pn := by
        rcases r with r | r
        · exact absurd r g
        · exact r
      have c := i_cl r2.1
      have hp9 := hg (nxV pk pd pe k n met pn).toNatClampNeg (by omega)
      split
      · apply ih
        · split
          · exact hp9.1
          · exact h0
        · split
          · exact hp9.2
          · exact h1
      · exact ih _ _ _ _ h0 h1

def sm_barred (cn pn hn lc : Int32) (fo pk pf po pd pe ho hc hp hs lp la lb : Nat → Int32) (k d : Int32) : Int32 := if 0 ≤ k.toInt ∧ k.toInt < cn.toInt ∧ 0 ≤ d.toInt ∧ d.toInt < 10000 then (if 500000 ≤ brV (pmF ho hc hp hs d hn.toNatClampNeg) (poV lp la lb d lc.toNatClampNeg) (ooV pk pf po pd pe pn.toNatClampNeg k d d 41 0 (fo k.toNatClampNeg) (fo k.toNatClampNeg) 0).1.toNatClampNeg 10 then 1 else 0) else -1000001

def km_day (pn hn lc gn td : Int32) (fo wo pk pf po pd pe ho hc hp hs lp la lb gk gs ge : Nat → Int32) (k : Int32) : Int32 := kdF (brV (pmF ho hc hp hs td hn.toNatClampNeg) (poV lp la lb td lc.toNatClampNeg) (ooV pk pf po pd pe pn.toNatClampNeg k td td 41 0 (fo k.toNatClampNeg) (fo k.toNatClampNeg) 0).1.toNatClampNeg 10) (suV gk gs ge k td gn.toNatClampNeg) (wo k.toNatClampNeg)
def sm_kind (cn pn hn lc gn td : Int32) (fo wo pk pf po pd pe ho hc hp hs lp la lb gk gs ge : Nat → Int32) (k : Int32) : Int32 := if 0 ≤ k.toInt ∧ k.toInt < cn.toInt then km_day pn hn lc gn td fo wo pk pf po pd pe ho hc hp hs lp la lb gk gs ge k else -1000001
def sm_as (lf cn pn hn lc gn td : Int32) (fo wo pk pf po pd pe ho hc hp hs lp la lb gk gs ge : Nat → Int32) (k w r lf' : Int32) : Prop := if 0 ≤ k.toInt ∧ k.toInt < cn.toInt ∧ 0 ≤ w.toInt ∧ w.toInt < 5 then ((isK (km_day pn hn lc gn td fo wo pk pf po pd pe ho hc hp hs lp la lb gk gs ge k) w ∧ r = wo k.toNatClampNeg ∧ lf' = 0) ∨ (¬ isK (km_day pn hn lc gn td fo wo pk pf po pd pe ho hc hp hs lp la lb gk gs ge k) w ∧ r = -1000013 ∧ lf' = 3)) else (r = -1000001 ∧ lf' = lf)

def sm_ask (tn : Int32) (tr : Nat → Int32) (cn pn hn lc gn td : Int32) (fo wo pk pf po pd pe ho hc hp hs lp la lb gk gs ge : Nat → Int32) (k w : Int32) : Int32 × Int32 × (Nat → Int32) := if 0 ≤ k.toInt ∧ k.toInt < cn.toInt ∧ 0 ≤ w.toInt ∧ w.toInt < 2 then (if w.toInt = 0 then szM (km_day pn hn lc gn td fo wo pk pf po pd pe ho hc hp hs lp la lb gk gs ge k) (wo k.toNatClampNeg) (suV gk gs ge k td gn.toNatClampNeg) (ooV pk pf po pd pe pn.toNatClampNeg k td td 41 0 (fo k.toNatClampNeg) (fo k.toNatClampNeg) 0).1 (0, tr) else mkM (km_day pn hn lc gn td fo wo pk pf po pd pe ho hc hp hs lp la lb gk gs ge k) (wo k.toNatClampNeg) (ooV pk pf po pd pe pn.toNatClampNeg k td td 41 0 (fo k.toNatClampNeg) (fo k.toNatClampNeg) 0).1 (0, tr)) else (-1000001, tn, tr)


/-- the first line that an act of kind x for y days wakes, from line k on -/
def wkF (mli : Nat → Int32) (x y : Int32) : Nat → Nat → Int32
  | 0, _ => -1000000
  | n + 1, k => if (mli (3 * k)).toInt = x.toInt ∧ (mli (3 * k + 1)).toInt < y.toInt then nI k else wkF mli x y n (k + 1)
theorem wkF_rng (mli : Nat → Int32) (x y : Int32) : ∀ n k : Nat, n + k ≤ 12 → (wkF mli x y n k).toInt = -1000000 ∨ (0 ≤ (wkF mli x y n k).toInt ∧ (wkF mli x y n k).toInt < (n + k : Nat))
  | 0, k, h => Or.inl (by unfold wkF; decide)
  | n + 1, k, h => by
    unfold wkF
    split
    · right
      rw [nI_toInt (by omega)]
      omega
    · have := wkF_rng mli x y n (k + 1) (by omega)
      omega


/-- the byte at a place of the tape -/
def bAt (msz : Int32) (mtp : Nat → Int32) (a : Int32) : Int32 := if a.toInt < msz.toInt then mtp a.toNatClampNeg else -1000000
theorem bAt_rng (msz : Int32) (mtp : Nat → Int32) (a : Int32) : a.toInt < msz.toInt ∨ (bAt msz mtp a).toInt = -1000000 := by
  by_cases h : a.toInt < msz.toInt
  · exact Or.inl h
  · right; unfold bAt; rw [if_neg h]; rfl

theorem upd_z {f : Nat → Int32} (h : ∀ j, f j = 0) {k : Nat} : ∀ j, upd f k 0 j = 0 := by
  intro j
  by_cases e : j = k
  · rw [e]; exact upd_s _ _ _
  · rw [upd_n _ _ e]; exact h j
/-- one row of ints in a world, said otherwise below its length -/
theorem va_P.setf {D : va_G} {cl : List vw_C} {ws : va_W} {H : Heap} {a : Nat} {cI : ClassId} {N : Nat} {f g : Nat → Int32} (hP : va_P D cl ws H) (k : Nat) (hk : ws[k]? = some (a, .inl (cI, N, .inl f))) (h : ∀ j, j < N → f j = g j) : va_P D cl (ws.set k (a, .inl (cI, N, .inl g))) H := by
  intro i q hq
  by_cases e : i = k
  · subst e
    have hl : i < ws.length := (List.getElem?_eq_some_iff.mp hk).1
    rw [List.getElem?_set_self hl] at hq
    cases hq
    have h1 := hP i _ hk
    show H[a]? = some (vp_cell cI (N, .inl g))
    rw [← cell_cong h]
    exact h1
  · rw [List.getElem?_set_ne (fun q => e q.symm)] at hq
    exact hP i q hq
