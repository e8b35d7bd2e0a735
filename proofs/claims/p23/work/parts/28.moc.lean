
theorem l_bmod {z : Int} (h1 : -9223372036854775808 ≤ z) (h2 : z < 9223372036854775808) : z.bmod (2 ^ 64) = z := by
  rw [Int.bmod_def]; omega
theorem l_add {x y : Int64} (h1 : -9223372036854775808 ≤ x.toInt + y.toInt) (h2 : x.toInt + y.toInt < 9223372036854775808) : (x + y).toInt = x.toInt + y.toInt := by
  rw [Int64.toInt_add]; exact l_bmod h1 h2
theorem l_sub {x y : Int64} (h1 : -9223372036854775808 ≤ x.toInt - y.toInt) (h2 : x.toInt - y.toInt < 9223372036854775808) : (x - y).toInt = x.toInt - y.toInt := by
  rw [Int64.toInt_sub]; exact l_bmod h1 h2

/-- the reference's own cell -/
abbrev moC (md : Nat → Nat) (sd mth mst hn cn pn mq gn mln mnn ln mlt msz mcu mtk mfr mti mfa mfb an un lc td mtn : Int32) : Nat × va_E := (md 64, .inr (11, [.int mth, .long (sd.toInt64), .int mst, .ref (md 3), .ref (md 4), .ref (md 5), .int hn, .ref (md 7), .ref (md 8), .ref (md 9), .ref (md 10), .ref (md 11), .ref (md 12), .ref (md 13), .ref (md 14), .int cn, .ref (md 16), .ref (md 17), .int pn, .ref (md 19), .ref (md 20), .ref (md 21), .ref (md 22), .ref (md 23), .int mq, .int gn, .ref (md 26), .ref (md 27), .ref (md 28), .ref (md 29), .int mln, .ref (md 31), .int mnn, .ref (md 33), .ref (md 34), .int ln, .int mlt, .int msz, .int mcu, .int mtk, .int mfr, .int mti, .int mfa, .int mfb, .int an, .ref (md 45), .ref (md 46), .ref (md 47), .ref (md 48), .ref (md 49), .ref (md 50), .ref (md 51), .int un, .ref (md 53), .ref (md 54), .ref (md 55), .ref (md 56), .int lc, .ref (md 58), .ref (md 59), .ref (md 60), .int td, .ref (md 62), .int mtn]))
