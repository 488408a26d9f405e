def zz_pw : Nat → Nat
  | 0 => 0
  | t + 1 => 3 ^ t
theorem zz_pw3 (t : Nat) (ht : t < 10) : nI (zz_pw (t + 1)) / 3 = nI (zz_pw t) := by
  have h := pk_div (a := zz_pw (t + 1)) (d := 3) (by
    show 3 ^ t < 2 ^ 31
    exact Nat.lt_of_le_of_lt (Nat.pow_le_pow_right (by decide) (Nat.le_of_lt_succ (Nat.lt_succ_of_lt ht))) (by decide)) (by decide) (by decide)
  refine Eq.trans h (congrArg nI ?_)
  cases t with
  | zero => rfl
  | succ t =>
    show 3 ^ (t + 1) / 3 = 3 ^ t
    rw [Nat.pow_succ, Nat.mul_div_cancel _ (by decide)]
theorem zz_pwP (t : Nat) (ht : t < 10) : 0 < zz_pw (t + 1) ∧ zz_pw (t + 1) < 2 ^ 31 := ⟨Nat.pow_pos (by decide), Nat.lt_of_le_of_lt (Nat.pow_le_pow_right (by decide) (Nat.le_of_lt ht)) (by decide : (3 : Nat) ^ 10 < 2 ^ 31)⟩
theorem zz_tm {t : Int32} (h : -1 ≤ t) (h2 : t < 0) : t = -1 := Int32.toInt.inj (by
  have h1 := Int32.le_iff_toInt_le.mp h
  have h3 := Int32.lt_iff_toInt_lt.mp h2
  have e0 : (0 : Int32).toInt = 0 := by decide
  have e1 : (-1 : Int32).toInt = -1 := by decide
  omega)
theorem zz_tn {t : Int32} (h2 : ¬ t < 0) : ¬ t = -1 := fun e => h2 (by rw [e]; decide)
