
def sp_feed (ln n : Int32) : Int32 := if 1 ≤ n.toInt ∧ n.toInt ≤ 8 then (if 300 < ln.toInt + n.toInt then -1000003 else ln + n) else -1000001
def sq_feed (ln n : Int32) : Int32 := if 1 ≤ n.toInt ∧ n.toInt ≤ 8 then (if 300 < ln.toInt + n.toInt then ln else ln + n) else ln
