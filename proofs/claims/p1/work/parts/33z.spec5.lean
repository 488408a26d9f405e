theorem zz_sm {f g : Nat → Int32} {j k : Nat} {v x : Int32} (hg : g = upd f k x) (hk : j ≠ k) (hf : f j = v) : g j = v := by
  rw [hg]
  unfold upd
  rw [if_neg hk]
  exact hf
theorem zz_deal {n i k : Int32} (h : 1 ≤ n ∧ n ≤ 9) (a : n ≤ i) (b : ¬ n ≤ k) (e : i.toInt = k.toInt + 1) : i = sp_deal n := by
  have h1 := Int32.le_iff_toInt_le.mp a
  have h2 := Int32.lt_iff_toInt_lt.mp (Int32.not_le.mp b)
  have h3 : i = n := Int32.toInt.inj (by omega)
  rw [h3, sp_deal, if_pos h]
theorem zz_deal0 {n : Int32} (h : 1 ≤ n ∧ n ≤ 9) (a : n ≤ 0) : (0 : Int32) = sp_deal n := by
  have h1 := Int32.le_iff_toInt_le.mp a
  have h2 := Int32.le_iff_toInt_le.mp h.1
  have e0 : (0 : Int32).toInt = 0 := by decide
  have e1 : (1 : Int32).toInt = 1 := by decide
  omega
