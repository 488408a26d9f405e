/-! what the first call answers -/
def sp_stall (k : Int32) (q : Int32) (y : Int32) : Int32 := if 0 ≤ k ∧ k ≤ 5 then (if 0 ≤ q ∧ q ≤ 11 then (if 0 ≤ y ∧ y ≤ 99 then (0) else (-1000000001)) else (-1000000001)) else (-1000000001)
def sp_check (n : Int32) : Int32 := if 1 ≤ n ∧ n ≤ 30 then ((-1000000002)) else (-1000000001)
def sp_trim (n : Int32) : Int32 := if 0 ≤ n ∧ n ≤ 0 then (n) else (-1000000001)
def sp_without (n : Int32) (t : Int32) : Int32 := if 1 ≤ n ∧ n ≤ 60 then (if 0 ≤ t ∧ t ≤ 1 then ((-1000000005)) else (-1000000001)) else (-1000000001)
def sp_why (k : Int32) : Int32 := if 0 ≤ k ∧ k ≤ 2 then ((-1000000005)) else (-1000000001)
def sp_sh (h : Int32) : Int32 := if 0 ≤ h ∧ h ≤ 3 then ((-1000000011)) else (-1000000001)
def sp_whose (h : Int32) (n : Int32) (t : Int32) : Int32 := if 0 ≤ h ∧ h ≤ 3 then (if 0 ≤ n ∧ n ≤ 60 then (if 0 ≤ t ∧ t ≤ 1 then ((-1000000011)) else (-1000000001)) else (-1000000001)) else (-1000000001)
def sp_copy (a : Int32) (b : Int32) : Int32 := if 0 ≤ a ∧ a ≤ 3 then (if 0 ≤ b ∧ b ≤ 3 then ((-1000000011)) else (-1000000001)) else (-1000000001)
def sp_ask (o : Int32) (k : Int32) : Int32 := if 0 ≤ o ∧ o ≤ 4 then (if 0 ≤ k ∧ k ≤ 5 then ((-1000000011)) else (-1000000001)) else (-1000000001)
def sp_sl (o : Int32) : Int32 := if 0 ≤ o ∧ o ≤ 4 then ((-1000000011)) else (-1000000001)
def sp_lay (o : Int32) (t : Int32) (k : Int32) : Int32 := if 0 ≤ o ∧ o ≤ 4 then (if 0 ≤ t ∧ t ≤ 3 then (if t = 1 then (-1000000001) else if t = 2 then (if 0 ≤ k ∧ k ≤ 3 then (-1000000011) else (-1000000001)) else 0) else (-1000000001)) else (-1000000001)
theorem zz_wiN (v lo hi : Int32) : narrow .boolean (.int (zz_wi v lo hi)) = .int (zz_wi v lo hi) := by
  unfold zz_wi
  split <;> decide
