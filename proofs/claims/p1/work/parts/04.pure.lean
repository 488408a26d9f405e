/-! numbers: what the class and the reference both work out -/
def zz_wi (v lo hi : Int32) : Int32 := if lo ≤ v ∧ v ≤ hi then 1 else 0
theorem zz_wi1 {v lo hi : Int32} (h : ¬ v < lo) (h2 : ¬ hi < v) : (1 : Int32) = zz_wi v lo hi := (if_pos ⟨Int32.not_lt.mp h, Int32.not_lt.mp h2⟩).symm
theorem zz_wi0a {v lo hi : Int32} (h : v < lo) : (0 : Int32) = zz_wi v lo hi := (if_neg (fun q => absurd h (Int32.not_lt.mpr q.1))).symm
theorem zz_wi0b {v lo hi : Int32} (h : hi < v) : (0 : Int32) = zz_wi v lo hi := (if_neg (fun q => absurd h (Int32.not_lt.mpr q.2))).symm
theorem zz_wiT {v lo hi : Int32} (h : lo ≤ v ∧ v ≤ hi) : zz_wi v lo hi = 1 := if_pos h
theorem zz_wiF {v lo hi : Int32} (h : ¬ (lo ≤ v ∧ v ≤ hi)) : zz_wi v lo hi = 0 := if_neg h
theorem zz_no (v : Int32) : ¬ (0 ≤ v ∧ v ≤ -1) := fun h => by
  have h1 := Int32.le_iff_toInt_le.mp h.1
  have h2 := Int32.le_iff_toInt_le.mp h.2
  have e0 : (0 : Int32).toInt = 0 := by decide
  have e1 : (-1 : Int32).toInt = -1 := by decide
  omega
def zz_held (v lo hi : Int32) : Int32 := if lo < (if hi < v then hi else v) then (if hi < v then hi else v) else lo
def zz_nz (z : Int32) : Int32 := z * 1103515245 + 12345
def zz_dr (z : Int32) : Int32 := (Int32.toUInt32 (zz_nz z) >>> (Int32.toUInt32 8 &&& Int32.toUInt32 31)).toInt32
def zz_rm (x y : Int32) : Int32 := x - x / y * y
def zz_by (z : Int32) : Int32 := zz_rm (zz_dr z) 3 - 1
/-- THE CLOTH's first PLACE behind the wind; how often it is torn; the next number drawn from -/
def zz_bF (fi z w g : Int32) : Int32 := if zz_rm (zz_dr z) 100 < g then zz_held (fi + zz_by (zz_nz z)) 0 (12 - w) else fi
def zz_bT (to z g : Int32) : Int32 := if zz_rm (zz_dr z) 100 < g then (if zz_by (zz_nz z) = 0 then to else to + 1) else to
def zz_bZ (z g : Int32) : Int32 := if zz_rm (zz_dr z) 100 < g then zz_nz (zz_nz z) else zz_nz z
theorem zz_rng (n : Nat) {x hi : Int32} (h : 0 ≤ x ∧ x ≤ hi) (hn : hi.toInt = n) : ∃ j : Nat, j ≤ n ∧ x = nI j := nI_of2 hn (Int32.not_lt.mpr h.1) h.2
theorem zz_rng1 (n : Nat) {x hi : Int32} (h : 1 ≤ x ∧ x ≤ hi) (hn : hi.toInt = n) : ∃ j : Nat, (1 ≤ j ∧ j ≤ n) ∧ x = nI j := by
  have h0 : ¬ x < 0 := fun hx => by
    have h1 := Int32.lt_iff_toInt_lt.mp hx
    have h2 := Int32.le_iff_toInt_le.mp h.1
    have e0 : (0 : Int32).toInt = 0 := by decide
    have e1 : (1 : Int32).toInt = 1 := by decide
    omega
  obtain ⟨j, hj, rfl⟩ := nI_of h0
  have h2 := Int32.le_iff_toInt_le.mp h.1
  have h3 := Int32.le_iff_toInt_le.mp h.2
  rw [nI_toInt hj] at h2 h3
  have e1 : (1 : Int32).toInt = 1 := by decide
  exact ⟨j, ⟨by omega, by omega⟩, rfl⟩
/-- hours go by, THE CLOTH not hauled -/
def zz_it (w g : Int32) : Nat → Int32 × Int32 × Int32 → Int32 × Int32 × Int32
  | 0, a => a
  | n + 1, a => zz_it w g n (zz_bF a.1 a.2.2 w g, zz_bT a.2.1 a.2.2 g, zz_bZ a.2.2 g)
theorem zz_wiO {x : Int32} (n : Nat) {hi : Int32} (hn : hi.toInt = n) (h : x.toInt < 0 ∨ (n : Int) < x.toInt) : zz_wi x 0 hi = 0 := zz_wiF (fun q => by
  have h1 := Int32.le_iff_toInt_le.mp q.1
  have h2 := Int32.le_iff_toInt_le.mp q.2
  have e0 : (0 : Int32).toInt = 0 := by decide
  omega)
theorem zz_cl1 {x y : Int32} : lg_cmp (Int32.toInt64 x) (Int32.toInt64 y) < 0 ↔ x < y := by
  have e1 : (Int32.toInt64 y < Int32.toInt64 x) ↔ y < x := by rw [Int64.lt_iff_toInt_lt, Int32.lt_iff_toInt_lt, Int32.toInt_toInt64, Int32.toInt_toInt64]
  have e2 : (Int32.toInt64 x = Int32.toInt64 y) ↔ x = y := ⟨fun h => Int32.toInt.inj (by rw [← Int32.toInt_toInt64, ← Int32.toInt_toInt64, h]), fun h => by rw [h]⟩
  unfold lg_cmp
  by_cases h1 : y < x
  · have h3 : ¬ x < y := fun h => absurd h1 (Int32.not_lt.mpr (Int32.le_of_lt h))
    simp [e1, h1, h3]
  · by_cases h2 : x = y
    · subst h2
      simp [h1]
    · have h3 : x < y := Int32.lt_of_le_of_ne (Int32.not_lt.mp h1) h2
      simp [e1, e2, h1, h2, h3]
theorem zz_cl2 {x y : Int32} : 0 < lg_cmp (Int32.toInt64 x) (Int32.toInt64 y) ↔ y < x := by
  have e1 : (Int32.toInt64 y < Int32.toInt64 x) ↔ y < x := by rw [Int64.lt_iff_toInt_lt, Int32.lt_iff_toInt_lt, Int32.toInt_toInt64, Int32.toInt_toInt64]
  have e2 : (Int32.toInt64 x = Int32.toInt64 y) ↔ x = y := ⟨fun h => Int32.toInt.inj (by rw [← Int32.toInt_toInt64, ← Int32.toInt_toInt64, h]), fun h => by rw [h]⟩
  unfold lg_cmp
  by_cases h1 : y < x
  · simp [e1, h1]
  · by_cases h2 : x = y
    · subst h2
      simp [h1]
    · simp [e1, e2, h1, h2]
/-- a number held from 0 to the most, as the reference does it -/
def zz_hw (v m : Int32) : Int32 := if v < 0 then 0 else if m < v then m else v
def zz_mF (fi y z w g : Int32) : Int32 := if zz_rm (zz_dr z) 100 < g then zz_hw (zz_hw (fi + y) (12 - w) + zz_by (zz_nz z)) (12 - w) else zz_hw (fi + y) (12 - w)
def zz_im (w g : Int32) : Nat → Int32 × Int32 × Int32 → Int32 × Int32 × Int32
  | 0, a => a
  | n + 1, a => zz_im w g n (zz_mF a.1 0 a.2.2 w g, zz_bT a.2.1 a.2.2 g, zz_bZ a.2.2 g)
theorem zz_hw_in (v : Int32) : 0 ≤ (zz_hw v 9).toInt ∧ (zz_hw v 9).toInt ≤ 9 := by
  unfold zz_hw
  have e0 : (0 : Int32).toInt = 0 := by decide
  have e9 : (9 : Int32).toInt = 9 := by decide
  split
  · rw [e0]; omega
  · rename_i h
    split
    · rw [e9]; omega
    · rename_i h2
      have h3 := Int32.le_iff_toInt_le.mp (Int32.not_lt.mp h)
      have h4 := Int32.le_iff_toInt_le.mp (Int32.not_lt.mp h2)
      omega
theorem zz_hw_id {v : Int32} (h : 0 ≤ v.toInt ∧ v.toInt ≤ 9) : zz_hw v 9 = v := by
  have e0 : (0 : Int32).toInt = 0 := by decide
  have e9 : (9 : Int32).toInt = 9 := by decide
  unfold zz_hw
  rw [if_neg (Int32.not_lt.mpr (Int32.le_iff_toInt_le.mpr (by omega))), if_neg (Int32.not_lt.mpr (Int32.le_iff_toInt_le.mpr (by omega)))]
theorem zz_hw_held (v : Int32) : zz_held v 0 9 = zz_hw v 9 := by
  have e0 : (0 : Int32).toInt = 0 := by decide
  have e9 : (9 : Int32).toInt = 9 := by decide
  unfold zz_held zz_hw
  by_cases h : v < 0
  · have h1 := Int32.lt_iff_toInt_lt.mp h
    have h2 : ¬ (9 : Int32) < v := fun q => by
      have := Int32.lt_iff_toInt_lt.mp q
      omega
    have h3 : ¬ (0 : Int32) < v := fun q => by
      have := Int32.lt_iff_toInt_lt.mp q
      omega
    simp [h, h2, h3]
  · by_cases h2 : 9 < v
    · simp [h, h2]
    · by_cases h3 : 0 < v
      · simp [h, h2, h3]
      · have h4 : v = 0 := Int32.toInt.inj (by
          have q1 := Int32.le_iff_toInt_le.mp (Int32.not_lt.mp h)
          have q2 := Int32.le_iff_toInt_le.mp (Int32.not_lt.mp h3)
          omega)
        subst h4
        decide
theorem zz_im_s (w g : Int32) (n : Nat) (fi to z : Int32) : zz_im w g (n + 1) (fi, to, z) = zz_im w g n (zz_mF fi 0 z w g, zz_bT to z g, zz_bZ z g) := rfl
theorem zz_it_s (w g : Int32) (n : Nat) (fi to z : Int32) : zz_it w g (n + 1) (fi, to, z) = zz_it w g n (zz_bF fi z w g, zz_bT to z g, zz_bZ z g) := rfl
theorem zz_mF_bF (fi z w g : Int32) (hw : 12 - w = 9) (h : 0 ≤ fi.toInt ∧ fi.toInt ≤ 9) : zz_mF fi 0 z w g = zz_bF fi z w g := by
  unfold zz_mF zz_bF
  rw [hw, Int32.add_zero, zz_hw_id h]
  split
  · rw [zz_hw_held]
  · rfl
theorem zz_bF_in (fi z w g : Int32) (hw : 12 - w = 9) (h : 0 ≤ fi.toInt ∧ fi.toInt ≤ 9) : 0 ≤ (zz_bF fi z w g).toInt ∧ (zz_bF fi z w g).toInt ≤ 9 := by
  unfold zz_bF
  rw [hw]
  split
  · rw [zz_hw_held]
    exact zz_hw_in _
  · exact h
theorem zz_im_it (w g : Int32) (hw : 12 - w = 9) (n : Nat) : ∀ (fi to z : Int32), (0 ≤ fi.toInt ∧ fi.toInt ≤ 9) → zz_im w g n (fi, to, z) = zz_it w g n (fi, to, z) := by
  induction n with
  | zero => intro fi to z _; rfl
  | succ n ih =>
    intro fi to z h
    rw [zz_im_s, zz_it_s, zz_mF_bF fi z w g hw h]
    exact ih _ _ _ (zz_bF_in fi z w g hw h)
