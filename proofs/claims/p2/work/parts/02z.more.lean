
theorem i_nn {x : Int32} (h : 0 ≤ x.toInt) : ¬ x < 0 := fun h1 => by have := i_lt h1; have h0 : (0 : Int32).toInt = 0 := rfl; omega

/-- a sheet's row is another one -/
def upR (rs : Nat → Nat → Int32) (j : Nat) (g : Nat → Int32) : Nat → Nat → Int32 := fun i => if i = j then g else rs i
theorem rows_at {rw : Nat → Nat} {cI : ClassId} {rs : Nat → Nat → Int32} {X : va_W} {j : Nat} (hj : j < 8) : (((rw 0, .inl (cI, 60, .inl (rs 0))) :: (rw 1, .inl (cI, 60, .inl (rs 1))) :: (rw 2, .inl (cI, 60, .inl (rs 2))) :: (rw 3, .inl (cI, 60, .inl (rs 3))) :: (rw 4, .inl (cI, 60, .inl (rs 4))) :: (rw 5, .inl (cI, 60, .inl (rs 5))) :: (rw 6, .inl (cI, 60, .inl (rs 6))) :: (rw 7, .inl (cI, 60, .inl (rs 7))) :: X) : va_W)[j]? = some (rw j, .inl (cI, 60, .inl (rs j))) := by
  rcases (show j = 0 ∨ j = 1 ∨ j = 2 ∨ j = 3 ∨ j = 4 ∨ j = 5 ∨ j = 6 ∨ j = 7 by omega) with rfl | rfl | rfl | rfl | rfl | rfl | rfl | rfl <;> rfl
theorem rows_set {rw : Nat → Nat} {cI : ClassId} {rs : Nat → Nat → Int32} {g : Nat → Int32} {X : va_W} {j : Nat} (hj : j < 8) : (((rw 0, .inl (cI, 60, .inl (rs 0))) :: (rw 1, .inl (cI, 60, .inl (rs 1))) :: (rw 2, .inl (cI, 60, .inl (rs 2))) :: (rw 3, .inl (cI, 60, .inl (rs 3))) :: (rw 4, .inl (cI, 60, .inl (rs 4))) :: (rw 5, .inl (cI, 60, .inl (rs 5))) :: (rw 6, .inl (cI, 60, .inl (rs 6))) :: (rw 7, .inl (cI, 60, .inl (rs 7))) :: X) : va_W).set j (rw j, .inl (cI, 60, .inl g)) = (rw 0, .inl (cI, 60, .inl (upR rs j g 0))) :: (rw 1, .inl (cI, 60, .inl (upR rs j g 1))) :: (rw 2, .inl (cI, 60, .inl (upR rs j g 2))) :: (rw 3, .inl (cI, 60, .inl (upR rs j g 3))) :: (rw 4, .inl (cI, 60, .inl (upR rs j g 4))) :: (rw 5, .inl (cI, 60, .inl (upR rs j g 5))) :: (rw 6, .inl (cI, 60, .inl (upR rs j g 6))) :: (rw 7, .inl (cI, 60, .inl (upR rs j g 7))) :: X := by
  rcases (show j = 0 ∨ j = 1 ∨ j = 2 ∨ j = 3 ∨ j = 4 ∨ j = 5 ∨ j = 6 ∨ j = 7 by omega) with rfl | rfl | rfl | rfl | rfl | rfl | rfl | rfl <;> rfl
section AALD
variable {p : Program} {l : Launch} {e : Env} {R : Room} {s : State} {m : MethodId} {args : Array Value} {below : List Frame} {meth : Method} {c : Code} {H : Heap} {locs : List Loc} {cells slots : Nat} {Q : State → Prop}
variable {pc : Nat} {ls : Array Slot} {rest : List Value} {D : va_G} {tys : List (ClassId × FieldType)} {ws : va_W}
theorem st_aaldR {cc : ByteArray} {q1 : Nat} {rw : Nat → Nat} (hexec : p.tables.exec = Jvm.exec) (hb : c.code = cc) {cl : List vw_C} (hK : va_K D cl tys s) (hP : va_P D cl ws H) (q0 t0 : Nat) {cA : ClassId} {ty : FieldType} (ha : ws[q0]? = some (q1, .inl (cA, 8, .inr (.inr (.inr (.inr (fun i => if i < 8 then some (rw i) else none))))))) (ht : tys[t0]? = some (cA, .array ty)) {i : Int32} (hin : vp_in i 8) (hdg : decode cc pc = .ok (.aaload, 1))
    (kk : W p l e R s m args below meth c H locs cells slots Q (F0 m (pc + 1) ls (.ref (rw i.toNatClampNeg) :: rest))) : W p l e R s m args below meth c H locs cells slots Q (F0 m pc ls (.int i :: .ref q1 :: rest)) := by
  have hlt : i.toNatClampNeg < 8 := Nat.not_le.mp fun q => hin (Or.inr q)
  refine st_aald hexec hb hK hP q0 t0 ha ht hin hdg ?_
  have e9 : (fun i => if i < 8 then some (rw i) else none) i.toNatClampNeg = some (rw i.toNatClampNeg) := if_pos hlt
  rw [e9]
  exact kk
end AALD


theorem l_bmod {z : Int} (h1 : -9223372036854775808 ≤ z) (h2 : z < 9223372036854775808) : z.bmod (2 ^ 64) = z := by
  rw [Int.bmod_def]; omega
theorem l_add {x y : Int64} (h1 : -9223372036854775808 ≤ x.toInt + y.toInt) (h2 : x.toInt + y.toInt < 9223372036854775808) : (x + y).toInt = x.toInt + y.toInt := by
  rw [Int64.toInt_add]; exact l_bmod h1 h2
theorem l_sub {x y : Int64} (h1 : -9223372036854775808 ≤ x.toInt - y.toInt) (h2 : x.toInt - y.toInt < 9223372036854775808) : (x - y).toInt = x.toInt - y.toInt := by
  rw [Int64.toInt_sub]; exact l_bmod h1 h2
