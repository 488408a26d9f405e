theorem zz_cp {g f : Nat → Int32} {i : Nat} (h : ∀ j, j < i → g j = f j) (hi : i < 2 ^ 31) : ∀ j, j < i + 1 → upd g (Int32.toNatClampNeg (nI i)) (f (Int32.toNatClampNeg (nI i))) j = f j := by
  intro j hj
  rw [nI_clamp hi]
  unfold upd
  by_cases e : j = i
  · rw [if_pos e, e]
  · rw [if_neg e]
    exact h j (by omega)
theorem zz_swn {x v : Int32} {n : Nat} (h : x.toInt < 0 ∨ (n : Int) < x.toInt) (hv : 0 ≤ v.toInt ∧ v.toInt ≤ n) : ¬ x = v := fun e => by
  rw [e] at h
  omega
theorem zz_swr {x hi : Int32} {n : Nat} (h : x.toInt < 0 ∨ (n : Int) < x.toInt) (hn : hi.toInt = n) : ¬ (0 ≤ x ∧ x ≤ hi) := fun q => by
  have h1 := Int32.le_iff_toInt_le.mp q.1
  have h2 := Int32.le_iff_toInt_le.mp q.2
  have e0 : (0 : Int32).toInt = 0 := by decide
  omega
theorem zz_inA (c i n : Nat) (h : c + i < n) (hn : n < 2 ^ 31) : vp_in (nI c + nI i) n := by
  rw [nI_add]
  exact vp_in_nI h hn
