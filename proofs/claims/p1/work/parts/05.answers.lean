/-- sheet on a new object -/
def an_sheet (a b n : Int32) : Int32 := if 0 ≤ a.toInt ∧ a.toInt < 8 ∧ 0 ≤ b.toInt ∧ b.toInt < 3 ∧ n.toInt ≤ 60 then (if n.toInt < 0 then -1000014 else n) else -1000001

/-- set on a new object -/
def an_set (a i v : Int32) : Int32 := if 0 ≤ a.toInt ∧ a.toInt < 8 then -1000011 else -1000001

/-- copy on a new object -/
def an_copy (a i b j n : Int32) : Int32 := if 0 ≤ a.toInt ∧ a.toInt < 8 ∧ 0 ≤ b.toInt ∧ b.toInt < 8 then -1000011 else -1000001

/-- drop on a new object -/
def an_drop (a : Int32) : Int32 := if 0 ≤ a.toInt ∧ a.toInt < 8 then -1000011 else -1000001

/-- hold on a new object -/
def an_hold (o k q d : Int32) : Int32 := if 0 ≤ o.toInt ∧ o.toInt < 20 ∧ 10 ≤ k.toInt ∧ k.toInt < 20 ∧ ¬ o.toInt = k.toInt ∧ 0 ≤ q.toInt ∧ q.toInt ≤ 100 ∧ 0 ≤ d.toInt ∧ d.toInt < 10000 then 1 else -1000001

/-- holds on a new object -/
def an_holds (a i n : Int32) : Int32 := if 0 ≤ a.toInt ∧ a.toInt < 8 ∧ 1 ≤ n.toInt ∧ n.toInt ≤ 15 then -1000011 else -1000001

/-- percent on a new object -/
def an_percent (o k d : Int32) : Int32 := if 0 ≤ o.toInt ∧ o.toInt < 20 ∧ 10 ≤ k.toInt ∧ k.toInt < 20 ∧ ¬ o.toInt = k.toInt ∧ 0 ≤ d.toInt ∧ d.toInt < 10000 then 0 else -1000001

/-- share on a new object -/
def an_share (q o d : Int32) : Int32 := if 0 ≤ q.toInt ∧ q.toInt < 10 ∧ 0 ≤ o.toInt ∧ o.toInt < 20 ∧ 0 ≤ d.toInt ∧ d.toInt < 10000 then (if o.toInt < 10 then (if o.toInt = q.toInt then 1000000 else 0) else 0) else -1000001

/-- truly on a new object -/
def an_truly (o d : Int32) : Int32 := if 0 ≤ o.toInt ∧ o.toInt < 20 ∧ 0 ≤ d.toInt ∧ d.toInt < 10000 then (if o.toInt < 10 then o else -1000000) else -1000001

/-- rings on a new object -/
def an_rings (d : Int32) : Int32 := if 0 ≤ d.toInt ∧ d.toInt < 10000 then 0 else -1000001

/-- crate on a new object -/
def an_crate (o w : Int32) : Int32 := if 0 ≤ o.toInt ∧ o.toInt < 20 ∧ 1 ≤ w.toInt ∧ w.toInt ≤ 100000 then 0 else -1000001

/-- room on a new object -/
def an_room (q w v : Int32) : Int32 := if 0 ≤ q.toInt ∧ q.toInt < 6 ∧ 0 ≤ w.toInt ∧ w.toInt < 2 ∧ 0 ≤ v.toInt ∧ ((w.toInt = 0 ∧ v.toInt ≤ 12) ∨ (w.toInt = 1 ∧ v.toInt ≤ 1000000)) then (if w.toInt = 0 then 4 else 100000) else -1000001

/-- inside on a new object -/
def an_inside (q w : Int32) : Int32 := if 0 ≤ q.toInt ∧ q.toInt < 6 ∧ 0 ≤ w.toInt ∧ w.toInt < 3 then 0 else -1000001

/-- drawn on a new object -/
def an_drawn (d n : Int32) : Int32 := if 0 ≤ d.toInt ∧ d.toInt < 10000 ∧ 0 ≤ n.toInt ∧ n.toInt ≤ 12 then 0 else -1000001

/-- list on a new object -/
def an_list (q a b : Int32) : Int32 := if 0 ≤ q.toInt ∧ q.toInt < 10 ∧ 0 ≤ a.toInt ∧ b.toInt < 10000 ∧ a.toInt ≤ b.toInt then 1 else -1000001

/-- day on a new object -/
def an_day (d : Int32) : Int32 := if 0 ≤ d.toInt ∧ d.toInt < 10000 then 0 else -1000001

/-- feed on a new object -/
def an_feed (n : Int32) : Int32 := if 1 ≤ n.toInt ∧ n.toInt ≤ 8 then n else -1000001

/-- count on a new object -/
def an_count (w : Int32) : Int32 := if 0 ≤ w.toInt ∧ w.toInt < 10 then 0 else -1000001

/-- the number drawn for a crate on a day -/
def an_lot (sd a d : Int32) : Int64 :=
  let z0 : Int64 := sd.toInt64 + a.toInt64 * 1000003 + d.toInt64 * 8191
  let z1 : Int64 := z0 * (-7046029254386353131)
  let z2 : Int64 := z1 ^^^ (z1.toUInt64 >>> ((29 : Int32).toInt64.toUInt64 &&& Int64.toUInt64 63)).toInt64
  let z3 : Int64 := z2 * (-4658895280553007687)
  let z4 : Int64 := z3 ^^^ (z3.toUInt64 >>> ((32 : Int32).toInt64.toUInt64 &&& Int64.toUInt64 63)).toInt64
  z4 &&& 9223372036854775807
def an_lotn (sd a d n : Int32) : Int32 := if 0 ≤ a.toInt ∧ a.toInt < 12 ∧ 0 ≤ d.toInt ∧ d.toInt < 10000 ∧ 1 ≤ n.toInt ∧ n.toInt ≤ 1000000 then (an_lot sd a d - an_lot sd a d / n.toInt64 * n.toInt64).toInt32 else -1000001
