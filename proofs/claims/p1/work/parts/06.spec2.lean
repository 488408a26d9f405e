/-! what the first call answers -/
def sp_cloth (t : Int32) : Int32 := if t.toInt < 0 ∨ (6 : Int) < t.toInt then (-1000000001) else ([0, 3, 10, 0, 20, 0, 0] : List Int32).getD t.toInt.toNat 0
def sp_book (t : Int32) : Int32 := if t.toInt < 0 ∨ (3 : Int) < t.toInt then (-1000000001) else ([0, 0, 0, 0] : List Int32).getD t.toInt.toNat 0
def sp_count (t : Int32) : Int32 := if t.toInt < 0 ∨ (6 : Int) < t.toInt then (-1000000001) else ([0, 0, 0, 0, 0, 0, 1] : List Int32).getD t.toInt.toNat 0
def sp_r (v lo hi was : Int32) : Int32 := if lo ≤ v ∧ v ≤ hi then was else (-1000000001)
def sp_rule (t v : Int32) : Int32 := if t.toInt < 0 ∨ (3 : Int) < t.toInt then (-1000000001) else if t = 0 then sp_r v 0 9 0 else if t = 1 then sp_r v 1 6 3 else if t = 2 then sp_r v 0 100 10 else sp_r v 0 2 0
def sp_deal (n : Int32) : Int32 := if 1 ≤ n ∧ n ≤ 9 then (n) else (-1000000001)
def sp_hours (n : Int32) : Int32 := if 1 ≤ n ∧ n ≤ 100 then (0) else (-1000000001)
def sp_behind (n t : Int32) : Int32 := if 0 ≤ n ∧ n ≤ 100 then (if 0 ≤ t ∧ t ≤ 3 then (if t = 2 then (zz_it 3 10 n.toNatClampNeg (0, 0, 1)).1 else if t = 3 then (zz_it 3 10 n.toNatClampNeg (0, 0, 1)).2.1 else 0) else (-1000000001)) else (-1000000001)
theorem sp_behind2 {N : Nat} (h : N ≤ 100) {a b c : Int32} (hn : 0 ≤ nI N ∧ nI N ≤ 100) (e : (a, b, c) = zz_it 3 10 N (0, 0, 1)) : a = sp_behind (nI N) 2 := by
  rw [sp_behind, if_pos hn, if_pos (by decide), if_pos rfl, nI_clamp (by omega), ← e]
theorem sp_behind3 {N : Nat} (h : N ≤ 100) {a b c : Int32} (hn : 0 ≤ nI N ∧ nI N ≤ 100) (e : (a, b, c) = zz_it 3 10 N (0, 0, 1)) : b = sp_behind (nI N) 3 := by
  rw [sp_behind, if_pos hn, if_pos (by decide), if_neg (by decide), if_pos rfl, nI_clamp (by omega), ← e]
theorem sp_behind0 {N : Nat} (hn : 0 ≤ nI N ∧ nI N ≤ 100) : (0 : Int32) = sp_behind (nI N) 0 := by
  rw [sp_behind, if_pos hn, if_pos (by decide), if_neg (by decide), if_neg (by decide)]
theorem sp_behind1 {N : Nat} (hn : 0 ≤ nI N ∧ nI N ≤ 100) : (0 : Int32) = sp_behind (nI N) 1 := by
  rw [sp_behind, if_pos hn, if_pos (by decide), if_neg (by decide), if_neg (by decide)]
def sp_wider (w : Int32) (n : Int32) : Int32 := if 0 ≤ w ∧ w ≤ 9999 then (if 1 ≤ n ∧ n ≤ 60 then (1) else (-1000000001)) else (-1000000001)
def sp_sheet (h : Int32) (t : Int32) (n : Int32) : Int32 := if 0 ≤ h ∧ h ≤ 3 then (if (-1) ≤ t ∧ t ≤ 1 then (if t = (-1) then 0 else if 24 < n then (-1000000001) else if n < 0 then (-1000000014) else n) else (-1000000001)) else (-1000000001)
