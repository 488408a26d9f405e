/-! numbers: what the class and the reference both work out -/
def zz_wi (v lo hi : Int32) : Int32 := if lo ≤ v ∧ v ≤ hi then 1 else 0
theorem zz_wi1 {v lo hi : Int32} (h : ¬ v < lo) (h2 : ¬ hi < v) : (1 : Int32) = zz_wi v lo hi := (if_pos ⟨Int32.not_lt.mp h, Int32.not_lt.mp h2⟩).symm
theorem zz_wi0a {v lo hi : Int32} (h : v < lo) : (0 : Int32) = zz_wi v lo hi := (if_neg (fun q => absurd h (Int32.not_lt.mpr q.1))).symm
theorem zz_wi0b {v lo hi : Int32} (h : hi < v) : (0 : Int32) = zz_wi v lo hi := (if_neg (fun q => absurd h (Int32.not_lt.mpr q.2))).symm
theorem zz_wiT {v lo hi : Int32} (h : lo ≤ v ∧ v ≤ hi) : zz_wi v lo hi = 1 := if_pos h
theorem zz_wiF {v lo hi : Int32} (h : ¬ (lo ≤ v ∧ v ≤ hi)) : zz_wi v lo hi = 0 := if_neg h
theorem zz_no (v : Int32) : ¬ (0 ≤ v ∧ v ≤ -1) := fun h => by
  have h1 := Int32.le_iff_toInt_le.mp h.1
  have h2 := Int32.le_iff_toInt_le.mp h.2
  have e0 : (0 : Int32).toInt = 0 := by decide
  have e1 : (-1 : Int32).toInt = -1 := by decide
  omega
def zz_held (v lo hi : Int32) : Int32 := if lo < (if hi < v then hi else v) then (if hi < v then hi else v) else lo
def zz_nz (z : Int32) : Int32 := z * 1103515245 + 12345
def zz_dr (z : Int32) : Int32 := (Int32.toUInt32 (zz_nz z) >>> (Int32.toUInt32 8 &&& Int32.toUInt32 31)).toInt32
def zz_rm (x y : Int32) : Int32 := x - x / y * y
def zz_by (z : Int32) : Int32 := zz_rm (zz_dr z) 3 - 1
/-- THE CLOTH's first PLACE behind the wind; how often it is torn; the next number drawn from -/
def zz_bF (fi z w g : Int32) : Int32 := if zz_rm (zz_dr z) 100 < g then zz_held (fi + zz_by (zz_nz z)) 0 (12 - w) else fi
def zz_bT (to z g : Int32) : Int32 := if zz_rm (zz_dr z) 100 < g then (if zz_by (zz_nz z) = 0 then to else to + 1) else to
def zz_bZ (z g : Int32) : Int32 := if zz_rm (zz_dr z) 100 < g then zz_nz (zz_nz z) else zz_nz z
theorem zz_rng (n : Nat) {x hi : Int32} (h : 0 ≤ x ∧ x ≤ hi) (hn : hi.toInt = n) : ∃ j : Nat, j ≤ n ∧ x = nI j := nI_of2 hn (Int32.not_lt.mpr h.1) h.2
theorem zz_rng1 (n : Nat) {x hi : Int32} (h : 1 ≤ x ∧ x ≤ hi) (hn : hi.toInt = n) : ∃ j : Nat, (1 ≤ j ∧ j ≤ n) ∧ x = nI j := by
  have h0 : ¬ x < 0 := fun hx => by
    have h1 := Int32.lt_iff_toInt_lt.mp hx
    have h2 := Int32.le_iff_toInt_le.mp h.1
    have e0 : (0 : Int32).toInt = 0 := by decide
    have e1 : (1 : Int32).toInt = 1 := by decide
    omega
  obtain ⟨j, hj, rfl⟩ := nI_of h0
  have h2 := Int32.le_iff_toInt_le.mp h.1
  have h3 := Int32.le_iff_toInt_le.mp h.2
  rw [nI_toInt hj] at h2 h3
  have e1 : (1 : Int32).toInt = 1 := by decide
  exact ⟨j, ⟨by omega, by omega⟩, rfl⟩
/-- hours go by, THE CLOTH not hauled -/
def zz_it (w g : Int32) : Nat → Int32 × Int32 × Int32 → Int32 × Int32 × Int32
  | 0, a => a
  | n + 1, a => zz_it w g n (zz_bF a.1 a.2.2 w g, zz_bT a.2.1 a.2.2 g, zz_bZ a.2.2 g)
theorem zz_wiO {x : Int32} (n : Nat) {hi : Int32} (hn : hi.toInt = n) (h : x.toInt < 0 ∨ (n : Int) < x.toInt) : zz_wi x 0 hi = 0 := zz_wiF (fun q => by
  have h1 := Int32.le_iff_toInt_le.mp q.1
  have h2 := Int32.le_iff_toInt_le.mp q.2
  have e0 : (0 : Int32).toInt = 0 := by decide
  omega)
