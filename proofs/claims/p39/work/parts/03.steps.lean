section LOOPS
variable {p : Program} {l : Launch} {e : Env} {R : Room} {s : State} {m : MethodId} {args : Array Value} {below : List Frame} {meth : Method} {c : Code} {cells slots : Nat} {Q : State → Prop}
/-- a loop: at its head an invariant, and a measure that falls -/
theorem st_loop {σ : Type} (pc : Nat) (stk : σ → List Value) (Inv : σ → Array Slot → Heap → List Loc → Prop) (μ : σ → Int)
    (hμ : ∀ x ls H locs, Inv x ls H locs → 0 ≤ μ x)
    (step : ∀ n : Nat, (∀ x ls H locs, Inv x ls H locs → μ x < (n : Int) → W p l e R s m args below meth c H locs cells slots Q (F0 m pc ls (stk x))) → ∀ x ls H locs, Inv x ls H locs → μ x < (n : Int) + 1 → W p l e R s m args below meth c H locs cells slots Q (F0 m pc ls (stk x)))
    {ls : Array Slot} {H : Heap} {locs : List Loc} (x : σ) (h : Inv x ls H locs) : W p l e R s m args below meth c H locs cells slots Q (F0 m pc ls (stk x)) := by
  have K : ∀ n : Nat, ∀ x ls H locs, Inv x ls H locs → μ x < (n : Int) → W p l e R s m args below meth c H locs cells slots Q (F0 m pc ls (stk x)) := by
    intro n
    induction n with
    | zero =>
      intro x ls H locs h1 h2
      have := hμ x ls H locs h1
      exfalso
      omega
    | succ n ih =>
      intro x ls H locs h1 h2
      exact step n ih x ls H locs h1 (by omega)
  have h0 := hμ x ls H locs h
  exact K (μ x + 1).toNat x ls H locs h (by omega)
/-- a place where roads meet -/
theorem st_join {σ : Type} (pc : Nat) (stk : σ → List Value) (Inv : σ → Array Slot → Heap → List Loc → Prop) {g : JFrame} {H : Heap} {locs : List Loc}
    (J : ∀ x ls H locs, Inv x ls H locs → W p l e R s m args below meth c H locs cells slots Q (F0 m pc ls (stk x)))
    (k : (∀ x ls H locs, Inv x ls H locs → W p l e R s m args below meth c H locs cells slots Q (F0 m pc ls (stk x))) → W p l e R s m args below meth c H locs cells slots Q g) : W p l e R s m args below meth c H locs cells slots Q g := k J
end LOOPS
theorem arrV_cong {cI : ClassId} {N : Nat} {f g : Nat → Value} (h : ∀ j, j < N → f j = g j) : arrV cI N f = arrV cI N g := by
  unfold arrV
  congr 2
  funext j
  exact h j.val j.isLt
/-- a row of ints is what its places below its length hold -/
theorem cell_cong {cI : ClassId} {N : Nat} {f g : Nat → Int32} (h : ∀ j, j < N → f j = g j) : vp_cell cI (N, .inl f) = vp_cell cI (N, .inl g) := by
  rw [vp_cell_i, vp_cell_i]
  exact arrV_cong (fun j hj => by rw [h j hj])
theorem va_P.cong1 {D : va_G} {cl : List vw_C} {a : Nat} {cI : ClassId} {N : Nat} {f g : Nat → Int32} {H : Heap} (hP : va_P D cl [(a, .inl (cI, N, .inl f))] H) (h : ∀ j, j < N → f j = g j) : va_P D cl [(a, .inl (cI, N, .inl g))] H := by
  intro k q hq
  have h0 : k < 1 := (List.getElem?_eq_some_iff.mp hq).1
  have hk : k = 0 := by omega
  subst hk
  cases hq
  have h1 := hP 0 _ rfl
  show H[a]? = some (vp_cell cI (N, .inl g))
  rw [← cell_cong h]
  exact h1
theorem va_D.adr {A : Nat → Prop} {ws ws' : va_W} (hD : va_D A ws) (h : ws.map (fun q => q.1) = ws'.map (fun q => q.1)) : va_D A ws' := by
  have key : ∀ (k : Nat) (q : Nat × va_E), ws'[k]? = some q → ∃ q', ws[k]? = some q' ∧ q'.1 = q.1 := by
    intro k q hq
    have h1 : (ws'.map (fun q => q.1))[k]? = some q.1 := by rw [List.getElem?_map, hq]; rfl
    rw [← h, List.getElem?_map] at h1
    cases hw : ws[k]? with
    | none => rw [hw] at h1; cases h1
    | some q' => rw [hw] at h1; exact ⟨q', rfl, Option.some.inj h1⟩
  refine ⟨fun i j x y hi hj hxy => ?_, fun k q hq => ?_⟩
  · obtain ⟨x', hx, ex⟩ := key i x hi
    obtain ⟨y', hy, ey⟩ := key j y hj
    exact hD.1 i j x' y' hx hy (by rw [ex, ey, hxy])
  · obtain ⟨q', hq', e⟩ := key k q hq
    rw [← e]
    exact hD.2 k q' hq'
theorem upd_s (f : Nat → Int32) (k : Nat) (x : Int32) : upd f k x k = x := by simp [upd]
theorem upd_n (f : Nat → Int32) {k j : Nat} (x : Int32) (h : j ≠ k) : upd f k x j = f j := by simp [upd, h]
