theorem upd_z {f : Nat → Int32} (h : ∀ j, f j = 0) {k : Nat} : ∀ j, upd f k 0 j = 0 := by
  intro j
  by_cases e : j = k
  · rw [e]; exact upd_s _ _ _
  · rw [upd_n _ _ e]; exact h j
/-- one row of ints in a world, said otherwise below its length -/
theorem va_P.setf {D : va_G} {cl : List vw_C} {ws : va_W} {H : Heap} {a : Nat} {cI : ClassId} {N : Nat} {f g : Nat → Int32} (hP : va_P D cl ws H) (k : Nat) (hk : ws[k]? = some (a, .inl (cI, N, .inl f))) (h : ∀ j, j < N → f j = g j) : va_P D cl (ws.set k (a, .inl (cI, N, .inl g))) H := by
  intro i q hq
  by_cases e : i = k
  · subst e
    have hl : i < ws.length := (List.getElem?_eq_some_iff.mp hk).1
    rw [List.getElem?_set_self hl] at hq
    cases hq
    have h1 := hP i _ hk
    show H[a]? = some (vp_cell cI (N, .inl g))
    rw [← cell_cong h]
    exact h1
  · rw [List.getElem?_set_ne (fun q => e q.symm)] at hq
    exact hP i q hq
