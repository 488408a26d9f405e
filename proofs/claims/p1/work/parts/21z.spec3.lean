def sp_best (n : Int32) (t : Int32) : Int32 := if 1 ≤ n ∧ n ≤ 5 then (if 0 ≤ t ∧ t ≤ 1 then (0) else (-1000000001)) else (-1000000001)
