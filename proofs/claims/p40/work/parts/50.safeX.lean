section
/-! TOTALITY: the function gives an answer, with P -/
def zk (o : Option (Int32 × zg_S)) (P : Int32 → zg_S → Prop) : Prop := ∃ r s, o = some (r, s) ∧ P r s
theorem zk_some {r : Int32} {s : zg_S} {P : Int32 → zg_S → Prop} (h : P r s) : zk (some (r, s)) P := ⟨r, s, rfl, h⟩
theorem zk_call {o : Option (Int32 × zg_S)} {k : Int32 → zg_S → Option (Int32 × zg_S)} {P Q : Int32 → zg_S → Prop} (h : zk o P) (hk : ∀ r s, P r s → zk (k r s) Q) : zk (zbd o k) Q := by
  obtain ⟨r, s, rfl, hp⟩ := h
  exact hk r s hp
theorem zk_let {α : Type} {a : α} {k : α → Option (Int32 × zg_S)} {P : Int32 → zg_S → Prop} (h : ∀ x, x = a → zk (k x) P) : zk (zlet a k) P := h a rfl
theorem zk_ite {c : Prop} [Decidable c] {t e : Option (Int32 × zg_S)} {P : Int32 → zg_S → Prop} (h1 : c → zk t P) (h2 : ¬ c → zk e P) : zk (if c then t else e) P := by
  by_cases h : c
  · rw [if_pos h]; exact h1 h
  · rw [if_neg h]; exact h2 h
theorem zk_in {i : Int32} {n : Nat} {t : Option (Int32 × zg_S)} {P : Int32 → zg_S → Prop} (h : zin i n = true) (ht : zk t P) : zk (if zin i n = true then t else none) P := by
  rw [if_pos h]; exact ht
theorem zk_nz {c : Prop} [Decidable c] {t : Option (Int32 × zg_S)} {P : Int32 → zg_S → Prop} (h : ¬ c) (ht : zk t P) : zk (if c then none else t) P := by
  rw [if_neg h]; exact ht
theorem zk_ck {c : Prop} [Decidable c] {t : Option (Int32 × zg_S)} {P : Int32 → zg_S → Prop} (h : c) (ht : zk t P) : zk (if c then t else none) P := by
  rw [if_pos h]; exact ht
theorem zk_mono {o : Option (Int32 × zg_S)} {P Q : Int32 → zg_S → Prop} (h : zk o P) (hp : ∀ r s, P r s → Q r s) : zk o Q := by
  obtain ⟨r, s, e, h⟩ := h
  exact ⟨r, s, e, hp r s h⟩
/-! numbers -/
theorem zlt {a b : Int32} (h : a < b) : a.toInt < b.toInt := Int32.lt_iff_toInt_lt.mp h
theorem znlt {a b : Int32} (h : ¬ a < b) : b.toInt ≤ a.toInt := Int.not_lt.mp (fun z => h (Int32.lt_iff_toInt_lt.mpr z))
theorem zle {a b : Int32} (h : a ≤ b) : a.toInt ≤ b.toInt := Int32.le_iff_toInt_le.mp h
theorem znle {a b : Int32} (h : ¬ a ≤ b) : b.toInt < a.toInt := Int.not_le.mp (fun z => h (Int32.le_iff_toInt_le.mpr z))
theorem zeq {a b : Int32} (h : a = b) : a.toInt = b.toInt := congrArg Int32.toInt h
theorem zne {a b : Int32} (h : ¬ a = b) : ¬ a.toInt = b.toInt := fun z => h (Int32.toInt_inj.mp z)
theorem zadd (a b : Int32) (h1 : -2147483648 ≤ a.toInt + b.toInt) (h2 : a.toInt + b.toInt < 2147483648) : (a + b).toInt = a.toInt + b.toInt := by
  rw [Int32.toInt_add]
  exact Int.bmod_eq_of_le (by omega) (by omega)
theorem zsub (a b : Int32) (h1 : -2147483648 ≤ a.toInt - b.toInt) (h2 : a.toInt - b.toInt < 2147483648) : (a - b).toInt = a.toInt - b.toInt := by
  rw [Int32.toInt_sub]
  exact Int.bmod_eq_of_le (by omega) (by omega)
theorem zmulL (b a : Int32) (n : Int) (e : a.toInt = n) (h1 : -2147483648 ≤ n * b.toInt) (h2 : n * b.toInt < 2147483648) : (a * b).toInt = n * b.toInt := by
  rw [Int32.toInt_mul, e]
  exact Int.bmod_eq_of_le (by omega) (by omega)
theorem zmulR (a b : Int32) (n : Int) (e : b.toInt = n) (h1 : -2147483648 ≤ a.toInt * n) (h2 : a.toInt * n < 2147483648) : (a * b).toInt = a.toInt * n := by
  rw [Int32.toInt_mul, e]
  exact Int.bmod_eq_of_le (by omega) (by omega)
/-- a number of an int, told apart from it (nested sums are kept from omega) -/
def zT (a : Int32) (v : Int) : Prop := a.toInt = v
theorem zTs (a : Int32) : zT a a.toInt := rfl
theorem zTl {a : Int32} {v : Int} (h : a.toInt = v) : zT a v := h
theorem zTe {a : Int32} {v : Int} (h : zT a v) : a.toInt = v := h
theorem zTadd {a b : Int32} {u v : Int} (ha : zT a u) (hb : zT b v) (h1 : -2147483648 ≤ u + v) (h2 : u + v < 2147483648) : zT (a + b) (u + v) := by
  unfold zT at *
  subst ha
  subst hb
  exact zadd a b h1 h2
theorem zTsub {a b : Int32} {u v : Int} (ha : zT a u) (hb : zT b v) (h1 : -2147483648 ≤ u - v) (h2 : u - v < 2147483648) : zT (a - b) (u - v) := by
  unfold zT at *
  subst ha
  subst hb
  exact zsub a b h1 h2
theorem zTmul {a b : Int32} {u v : Int} (ha : zT a u) (hb : zT b v) (h1 : -2147483648 ≤ u * v) (h2 : u * v < 2147483648) : zT (a * b) (u * v) := by
  unfold zT at *
  subst ha
  subst hb
  rw [Int32.toInt_mul]
  exact Int.bmod_eq_of_le (by omega) (by omega)
theorem zmin {y a b : Int32} (h : y = if a < b then a else b) : y.toInt ≤ b.toInt := by
  by_cases c : a < b
  · rw [if_pos c] at h; rw [h]; exact Int.le_of_lt (zlt c)
  · rw [if_neg c] at h; rw [h]; exact Int.le_refl _
theorem zin_mk {i : Int32} {n : Nat} (h0 : 0 ≤ i.toInt) (h1 : i.toInt < n) : zin i n = true := by
  unfold zin
  rw [Bool.and_eq_true, decide_eq_true_eq, decide_eq_true_eq]
  refine ⟨Int32.le_iff_toInt_le.mpr (by have e : (0 : Int32).toInt = 0 := by decide
                                        omega), ?_⟩
  show i.toInt.toNat < n
  omega
theorem zin_mkT {i : Int32} {v : Int} {n : Nat} (h : zT i v) (h0 : 0 ≤ v) (h1 : v < n) : zin i n = true := by
  unfold zT at h
  subst h
  exact zin_mk h0 h1
theorem ztn {i : Int32} (h0 : 0 ≤ i.toInt) : (i.toNatClampNeg : Int) = i.toInt := by
  show (i.toInt.toNat : Int) = i.toInt
  omega
theorem zcp {a b n : Int32} (h1 : 0 ≤ a.toInt) (h2 : 0 ≤ b.toInt) (h3 : 0 ≤ n.toInt) (h4 : a.toInt + n.toInt ≤ 24) (h5 : b.toInt + n.toInt ≤ 24) : ¬ a < 0 ∧ ¬ b < 0 ∧ ¬ n < 0 ∧ a.toNatClampNeg + n.toNatClampNeg ≤ 24 ∧ b.toNatClampNeg + n.toNatClampNeg ≤ 24 := by
  have e : (0 : Int32).toInt = 0 := by decide
  have n1 := ztn h1
  have n2 := ztn h2
  have n3 := ztn h3
  refine ⟨fun z => ?_, fun z => ?_, fun z => ?_, by omega, by omega⟩ <;> (have := zlt z; omega)
/-! THE CLASS'S BOUNDS -/
def xconI (kd k : Nat) (v : Int) : Prop := match kd, k with
  | 0, 3 => 0 ≤ v ∧ v ≤ 9
  | 0, 4 => 0 ≤ v ∧ v ≤ 14
  | 1, 2 => 0 ≤ v ∧ v ≤ 96
  | 1, 4 => 0 ≤ v ∧ v ≤ 96
  | 1, 5 => 0 ≤ v ∧ v ≤ 96
  | 2, 1 => 0 ≤ v ∧ v ≤ 24
  | 5, 2 => 0 ≤ v ∧ v ≤ 96
  | 6, 10 => 0 ≤ v ∧ v ≤ 96
  | 6, 11 => 0 ≤ v ∧ v ≤ 60
  | _, _ => True
def xcon (kd k : Nat) (v : Int32) : Prop := xconI kd k v.toInt
theorem xconT {kd k : Nat} {a : Int32} {v : Int} (h : zT a v) (hc : xconI kd k v) : xcon kd k a := by
  unfold zT at h
  subst h
  exact hc
def IX (σ : zg_S) : Prop := ∀ p k, xcon (xkd p) k (σ p k)
theorem IXf {σ : zg_S} {p kd : Nat} (h : IX σ) (hk : XL.2.1 p = kd) (k : Nat) : xcon kd k (σ p k) := by
  have e := h p k
  rw [show xkd p = kd from hk] at e
  exact e
theorem IX.row {σ : zg_S} {p : Nat} {f : Nat → Int32} (h : IX σ) (hk : XL.2.1 p = 8) : IX (zg_row σ p f) := by
  intro q j
  by_cases e : q = p
  · subst e
    rw [show xkd q = 8 from hk]
    exact trivial
  · rw [zg_row_ne e]
    exact h q j
theorem IX.up {σ : zg_S} {p k kd : Nat} {v : Int32} (h : IX σ) (hk : XL.2.1 p = kd) (hc : xcon kd k v) : IX (zg_up σ p k v) := by
  intro q j
  unfold zg_up
  by_cases e : q = p
  · subst e
    rw [zg_row_eq]
    by_cases ej : j = k
    · subst ej
      rw [pk_us, show xkd q = kd from hk]
      exact hc
    · rw [pk_un ej]
      exact h q j
  · rw [zg_row_ne e]
    exact h q j
theorem zkeep {σ : zg_S} {p k p' k' a b : Nat} {v : Int32} (h1 : XL.2.1 p = a) (h2 : XL.2.1 p' = b) (h : Nat.beq a b = false) : zg_up σ p k v p' k' = σ p' k' := by
  have e : p' ≠ p := fun e => by
    subst e
    have := h1.symm.trans h2
    subst this
    rw [Nat.beq_refl] at h
    cases h
  exact congrFun (zg_row_ne e) k'
theorem zkeepr {σ : zg_S} {p p' k' a b : Nat} {f : Nat → Int32} (h1 : XL.2.1 p = a) (h2 : XL.2.1 p' = b) (h : Nat.beq a b = false) : zg_row σ p f p' k' = σ p' k' := by
  have e : p' ≠ p := fun e => by
    subst e
    have := h1.symm.trans h2
    subst this
    rw [Nat.beq_refl] at h
    cases h
  exact congrFun (zg_row_ne e) k'
theorem zkeepf {σ : zg_S} {p k k' : Nat} {v : Int32} (h : Nat.beq k' k = false) : zg_up σ p k v p k' = σ p k' := by
  unfold zg_up
  rw [zg_row_eq]
  exact pk_un (fun e => by subst e; rw [Nat.beq_refl] at h; cases h)
theorem zgot {σ : zg_S} {p k : Nat} {v : Int32} : zg_up σ p k v p k = v := by
  unfold zg_up
  rw [zg_row_eq]
  exact pk_us
theorem zkeepk {σ : zg_S} {p k p' k' : Nat} {v : Int32} (h : Nat.beq k' k = false) : zg_up σ p k v p' k' = σ p' k' := by
  by_cases e : p' = p
  · subst e
    exact zkeepf h
  · exact congrFun (zg_row_ne e) k'
theorem zself {σ : zg_S} {p k p' : Nat} : zg_up σ p k (σ p' k) p' k = σ p' k := by
  by_cases e : p' = p
  · subst e
    exact zgot
  · exact congrFun (zg_row_ne e) k
theorem zl_I {bot : Int32 → zg_S → Option (Int32 × zg_S)} {F : (Int32 → zg_S → Option (Int32 × zg_S)) → Int32 → zg_S → Option (Int32 × zg_S)} {P : Int32 → zg_S → Prop} (I : Int32 → zg_S → Prop) (μ : Int32 → zg_S → Nat) (h : ∀ (rec : Int32 → zg_S → Option (Int32 × zg_S)) (x0 : Int32) (s : zg_S), I x0 s → (∀ (y0 : Int32) (t : zg_S), I y0 t → μ y0 t < μ x0 s → zk (rec y0 t) P) → zk (F rec x0 s) P) : ∀ (n : Nat) (x0 : Int32) (s : zg_S), I x0 s → μ x0 s < n → zk (zfix bot F n x0 s) P := by
  intro n
  induction n with
  | zero => intro x0 s _ hm; omega
  | succ n ih => intro x0 s hI hm; exact h (zfix bot F n) x0 s hI (fun y0 t hI' hm' => ih y0 t hI' (by omega))
theorem zl_II {bot : Int32 → Int32 → zg_S → Option (Int32 × zg_S)} {F : (Int32 → Int32 → zg_S → Option (Int32 × zg_S)) → Int32 → Int32 → zg_S → Option (Int32 × zg_S)} {P : Int32 → zg_S → Prop} (I : Int32 → Int32 → zg_S → Prop) (μ : Int32 → Int32 → zg_S → Nat) (h : ∀ (rec : Int32 → Int32 → zg_S → Option (Int32 × zg_S)) (x0 : Int32) (x1 : Int32) (s : zg_S), I x0 x1 s → (∀ (y0 : Int32) (y1 : Int32) (t : zg_S), I y0 y1 t → μ y0 y1 t < μ x0 x1 s → zk (rec y0 y1 t) P) → zk (F rec x0 x1 s) P) : ∀ (n : Nat) (x0 : Int32) (x1 : Int32) (s : zg_S), I x0 x1 s → μ x0 x1 s < n → zk (zfix bot F n x0 x1 s) P := by
  intro n
  induction n with
  | zero => intro x0 x1 s _ hm; omega
  | succ n ih => intro x0 x1 s hI hm; exact h (zfix bot F n) x0 x1 s hI (fun y0 y1 t hI' hm' => ih y0 y1 t hI' (by omega))
theorem zl_III {bot : Int32 → Int32 → Int32 → zg_S → Option (Int32 × zg_S)} {F : (Int32 → Int32 → Int32 → zg_S → Option (Int32 × zg_S)) → Int32 → Int32 → Int32 → zg_S → Option (Int32 × zg_S)} {P : Int32 → zg_S → Prop} (I : Int32 → Int32 → Int32 → zg_S → Prop) (μ : Int32 → Int32 → Int32 → zg_S → Nat) (h : ∀ (rec : Int32 → Int32 → Int32 → zg_S → Option (Int32 × zg_S)) (x0 : Int32) (x1 : Int32) (x2 : Int32) (s : zg_S), I x0 x1 x2 s → (∀ (y0 : Int32) (y1 : Int32) (y2 : Int32) (t : zg_S), I y0 y1 y2 t → μ y0 y1 y2 t < μ x0 x1 x2 s → zk (rec y0 y1 y2 t) P) → zk (F rec x0 x1 x2 s) P) : ∀ (n : Nat) (x0 : Int32) (x1 : Int32) (x2 : Int32) (s : zg_S), I x0 x1 x2 s → μ x0 x1 x2 s < n → zk (zfix bot F n x0 x1 x2 s) P := by
  intro n
  induction n with
  | zero => intro x0 x1 x2 s _ hm; omega
  | succ n ih => intro x0 x1 x2 s hI hm; exact h (zfix bot F n) x0 x1 x2 s hI (fun y0 y1 y2 t hI' hm' => ih y0 y1 y2 t hI' (by omega))
theorem zl_NI {bot : Nat → Int32 → zg_S → Option (Int32 × zg_S)} {F : (Nat → Int32 → zg_S → Option (Int32 × zg_S)) → Nat → Int32 → zg_S → Option (Int32 × zg_S)} {P : Int32 → zg_S → Prop} (I : Nat → Int32 → zg_S → Prop) (μ : Nat → Int32 → zg_S → Nat) (h : ∀ (rec : Nat → Int32 → zg_S → Option (Int32 × zg_S)) (x0 : Nat) (x1 : Int32) (s : zg_S), I x0 x1 s → (∀ (y0 : Nat) (y1 : Int32) (t : zg_S), I y0 y1 t → μ y0 y1 t < μ x0 x1 s → zk (rec y0 y1 t) P) → zk (F rec x0 x1 s) P) : ∀ (n : Nat) (x0 : Nat) (x1 : Int32) (s : zg_S), I x0 x1 s → μ x0 x1 s < n → zk (zfix bot F n x0 x1 s) P := by
  intro n
  induction n with
  | zero => intro x0 x1 s _ hm; omega
  | succ n ih => intro x0 x1 s hI hm; exact h (zfix bot F n) x0 x1 s hI (fun y0 y1 t hI' hm' => ih y0 y1 t hI' (by omega))
theorem zl_NII {bot : Nat → Int32 → Int32 → zg_S → Option (Int32 × zg_S)} {F : (Nat → Int32 → Int32 → zg_S → Option (Int32 × zg_S)) → Nat → Int32 → Int32 → zg_S → Option (Int32 × zg_S)} {P : Int32 → zg_S → Prop} (I : Nat → Int32 → Int32 → zg_S → Prop) (μ : Nat → Int32 → Int32 → zg_S → Nat) (h : ∀ (rec : Nat → Int32 → Int32 → zg_S → Option (Int32 × zg_S)) (x0 : Nat) (x1 : Int32) (x2 : Int32) (s : zg_S), I x0 x1 x2 s → (∀ (y0 : Nat) (y1 : Int32) (y2 : Int32) (t : zg_S), I y0 y1 y2 t → μ y0 y1 y2 t < μ x0 x1 x2 s → zk (rec y0 y1 y2 t) P) → zk (F rec x0 x1 x2 s) P) : ∀ (n : Nat) (x0 : Nat) (x1 : Int32) (x2 : Int32) (s : zg_S), I x0 x1 x2 s → μ x0 x1 x2 s < n → zk (zfix bot F n x0 x1 x2 s) P := by
  intro n
  induction n with
  | zero => intro x0 x1 x2 s _ hm; omega
  | succ n ih => intro x0 x1 x2 s hI hm; exact h (zfix bot F n) x0 x1 x2 s hI (fun y0 y1 y2 t hI' hm' => ih y0 y1 y2 t hI' (by omega))
theorem zt_m1000000005 : (-1000000005 : Int32).toInt = -1000000005 := by decide
theorem zt_m99999 : (-99999 : Int32).toInt = -99999 := by decide
theorem zt_m1033 : (-1033 : Int32).toInt = -1033 := by decide
theorem zt_m1000 : (-1000 : Int32).toInt = -1000 := by decide
theorem zt_m8 : (-8 : Int32).toInt = -8 := by decide
theorem zt_m2 : (-2 : Int32).toInt = -2 := by decide
theorem zt_m1 : (-1 : Int32).toInt = -1 := by decide
theorem zt_0 : (0 : Int32).toInt = 0 := by decide
theorem zt_1 : (1 : Int32).toInt = 1 := by decide
theorem zt_2 : (2 : Int32).toInt = 2 := by decide
theorem zt_3 : (3 : Int32).toInt = 3 := by decide
theorem zt_4 : (4 : Int32).toInt = 4 := by decide
theorem zt_5 : (5 : Int32).toInt = 5 := by decide
theorem zt_6 : (6 : Int32).toInt = 6 := by decide
theorem zt_8 : (8 : Int32).toInt = 8 := by decide
theorem zt_9 : (9 : Int32).toInt = 9 := by decide
theorem zt_11 : (11 : Int32).toInt = 11 := by decide
theorem zt_12 : (12 : Int32).toInt = 12 := by decide
theorem zt_13 : (13 : Int32).toInt = 13 := by decide
theorem zt_14 : (14 : Int32).toInt = 14 := by decide
theorem zt_24 : (24 : Int32).toInt = 24 := by decide
theorem zt_30 : (30 : Int32).toInt = 30 := by decide
theorem zt_38 : (38 : Int32).toInt = 38 := by decide
theorem zt_42 : (42 : Int32).toInt = 42 := by decide
theorem zt_43 : (43 : Int32).toInt = 43 := by decide
theorem zt_45 : (45 : Int32).toInt = 45 := by decide
theorem zt_47 : (47 : Int32).toInt = 47 := by decide
theorem zt_48 : (48 : Int32).toInt = 48 := by decide
theorem zt_57 : (57 : Int32).toInt = 57 := by decide
theorem zt_60 : (60 : Int32).toInt = 60 := by decide
theorem zt_61 : (61 : Int32).toInt = 61 := by decide
theorem zt_62 : (62 : Int32).toInt = 62 := by decide
theorem zt_81 : (81 : Int32).toInt = 81 := by decide
theorem zt_95 : (95 : Int32).toInt = 95 := by decide
theorem zt_96 : (96 : Int32).toInt = 96 := by decide
theorem zt_97 : (97 : Int32).toInt = 97 := by decide
theorem zt_99 : (99 : Int32).toInt = 99 := by decide
theorem zt_100 : (100 : Int32).toInt = 100 := by decide
theorem zt_122 : (122 : Int32).toInt = 122 := by decide
theorem zt_124 : (124 : Int32).toInt = 124 := by decide
theorem zt_153 : (153 : Int32).toInt = 153 := by decide
theorem zt_165 : (165 : Int32).toInt = 165 := by decide
theorem zt_177 : (177 : Int32).toInt = 177 := by decide
theorem zt_999 : (999 : Int32).toInt = 999 := by decide
theorem zt_9999 : (9999 : Int32).toInt = 9999 := by decide
theorem zt_99999 : (99999 : Int32).toInt = 99999 := by decide
end
section

theorem ej_coder (q0 : Nat) (σ : zg_S) : f_J0_coder_7d493 q0 σ = some (0, σ) := by
  unfold f_J0_coder_7d493
  exact if_pos (by decide)
theorem ej_len (q0 : Nat) (h : q0 < 6) (σ : zg_S) : f_J0_length_8abf5 q0 σ = some (nI (zz_len.getD q0 0), σ) := by
  have e : ∀ q, q < 6 → nI (zz_len.getD q 0) >>> ((0 : Int32) &&& 31) = nI (zz_len.getD q 0) := by decide
  unfold f_J0_length_8abf5
  rw [ej_coder]
  show some (nI (zz_len.getD q0 0) >>> ((0 : Int32) &&& 31), σ) = _
  rw [e q0 h]
theorem zlen4 : ∀ q, q < 6 → zz_len.getD q 0 ≤ 4 := by decide
theorem s_J0_length_8abf5 (q0 : Nat) (σ : zg_S) (hσ : IX σ) (hq0 : q0 < 6) : zk (f_J0_length_8abf5 q0 σ) (fun r s => σ = s ∧ (r.toInt = (zz_len.getD q0 0 : Int) ∧ zz_len.getD q0 0 ≤ 4)) := ⟨_, _, ej_len q0 hq0 σ, rfl, nI_toInt (by have := zlen4 q0 hq0; omega), zlen4 q0 hq0⟩
theorem s_J0_charAt_5068e (q0 : Nat) (a1 : Int32) (σ : zg_S) (hσ : IX σ) (hq0 : q0 < 6) (h0 : 0 ≤ a1.toInt) (h1 : a1.toInt < (zz_len.getD q0 0 : Int)) : zk (f_J0_charAt_5068e q0 a1 σ) (fun r s => σ = s) := by
  have e0 : (0 : Int32).toInt = 0 := by decide
  have l4 := zlen4 q0 hq0
  have c1 : ¬ a1 < 0 := fun z => by have := zlt z; omega
  have c2 : a1 < nI (zz_len.getD q0 0) := Int32.lt_iff_toInt_lt.mpr (by rw [nI_toInt (by omega)]; exact h1)
  have z : zin a1 (zz_len.getD q0 0) = true := zin_mk h0 h1
  have j := (zIn z).2
  have cb : ∀ q, q < 6 → ∀ j, j < 4 → vp_nar .char ((Int32.toUInt32 (((zz_byt.getD q []).getD j 0) &&& 255) % 65536).toInt32) = (Int32.toUInt32 (((zz_byt.getD q []).getD j 0) &&& 255) % 65536).toInt32 := by decide +kernel
  have cc := cb q0 hq0 a1.toNatClampNeg (by omega)
  unfold f_J0_charAt_5068e f_J0_isLatin1_aae02
  refine zk_call (P := fun r s => r = 1 ∧ σ = s) ⟨1, σ, rfl, rfl, rfl⟩ (fun r s hp => ?_)
  obtain ⟨rfl, rfl⟩ := hp
  refine zk_ite (fun h => absurd h (by decide)) (fun _ => ?_)
  refine zk_call (P := fun r s => vp_nar .char r = r ∧ σ = s) ?_ (fun r s hp => zk_ck hp.1 (zk_some hp.2))
  unfold f_J1_charAt_3b067
  refine zk_call (P := fun r s => σ = s) ?_ (fun r s hp => ?_)
  · unfold f_J0_checkIndex_df160
    refine zk_call (P := fun r s => σ = s) ?_ (fun r s hp => zk_some hp)
    unfold f_J3_checkIndex_8e157
    exact zk_ite (fun h => absurd h c1) (fun _ => zk_ite (fun _ => zk_some rfl) (fun h => absurd c2 h))
  · subst hp
    exact zk_in z (zk_ck cc (zk_some ⟨cc, rfl⟩))
theorem s_J1_indexOfChar_4cfef (q0 : Nat) (a1 a2 a3 : Int32) (σ : zg_S) (hσ : IX σ) (hq0 : q0 < 6) (h0 : a2.toInt = 0) (h3 : a3.toInt ≤ (zz_len.getD q0 0 : Int)) : zk (f_J1_indexOfChar_4cfef q0 a1 a2 a3 σ) (fun r s => σ = s) := by
  have l4 := zlen4 q0 hq0
  have e1 : (1 : Int32).toInt = 1 := by decide
  unfold f_J1_indexOfChar_4cfef L_J1_indexOfChar_4cfef_7
  refine zl_II (fun x4 x5 s => σ = s ∧ 0 ≤ x5.toInt ∧ x5.toInt ≤ 5) (fun x4 x5 s => (5 - x5.toInt).toNat) ?_ zfu _ _ _ ⟨rfl, by omega, by omega⟩ (by unfold zfu; omega)
  intro rec x4 x5 s hI ih
  obtain ⟨rfl, i1, i2⟩ := hI
  unfold B_J1_indexOfChar_4cfef_7
  refine zk_ite (fun h => zk_some rfl) (fun h => ?_)
  have g := znle h
  refine zk_in (zin_mk i1 (by omega)) ?_
  refine zk_ite (fun _ => zk_some rfl) (fun _ => ?_)
  have e := zadd x5 1 (by omega) (by omega)
  exact ih x4 (x5 + 1) _ ⟨rfl, by omega, by omega⟩ (by omega)
theorem s_J0_indexOf_0f7a4 (q0 : Nat) (a1 : Int32) (σ : zg_S) (hσ : IX σ) (hq0 : q0 < 6) : zk (f_J0_indexOf_0f7a4 q0 a1 σ) (fun r s => σ = s) := by
  have l4 := zlen4 q0 hq0
  unfold f_J0_indexOf_0f7a4
  refine zk_call (P := fun r s => σ = s) ?_ (fun r s hp => zk_some hp)
  unfold f_J0_indexOf_7cf53 f_J0_isLatin1_aae02
  refine zk_call (P := fun r s => r = 1 ∧ σ = s) ⟨1, σ, rfl, rfl, rfl⟩ (fun r s hp => ?_)
  obtain ⟨rfl, rfl⟩ := hp
  refine zk_ite (fun h => absurd h (by decide)) (fun _ => ?_)
  refine zk_call (s_J0_length_8abf5 q0 σ hσ hq0) (fun r s hp => ?_)
  obtain ⟨rfl, hr, _⟩ := hp
  refine zk_call (P := fun r s => σ = s) ?_ (fun r s hp => zk_some hp)
  unfold f_J1_indexOf_4cfef
  refine zk_call (P := fun r s => σ = s) ?_ (fun r1 s hp => ?_)
  · unfold f_J1_canEncode_9a6ad
    exact zk_ite (fun _ => zk_some rfl) (fun _ => zk_ite (fun _ => zk_some rfl) (fun _ => zk_some rfl))
  · subst hp
    refine zk_ite (fun _ => zk_some rfl) (fun _ => ?_)
    refine zk_let (fun y ey => ?_)
    have g := zmin ey
    refine zk_ite (fun _ => ?_) (fun _ => zk_some rfl)
    exact zk_call (s_J1_indexOfChar_4cfef q0 a1 _ y σ hσ hq0 (by decide) (by omega)) (fun r s hp => zk_some hp)











set_option maxHeartbeats 400000 in
theorem s_J6_bitCount_0f7a4 (a0 : Int32) (σ : zg_S) (hσ : IX σ)  : zk (f_J6_bitCount_0f7a4 a0 σ) (fun r s => σ = s) := by
  unfold f_J6_bitCount_0f7a4
  refine zk_let (fun y1 ey1 => ?_)
  refine zk_let (fun y6 ey2 => ?_)
  refine zk_let (fun y11 ey3 => ?_)
  refine zk_let (fun y16 ey4 => ?_)
  refine zk_let (fun y21 ey5 => ?_)
  exact zk_some rfl

set_option maxHeartbeats 400000 in
theorem s_X0_allGoods (q0 : Nat) (σ : zg_S) (hσ : IX σ) (hq0 : XL.2.1 q0 = 0) : zk (f_X0_allGoods q0 σ) (fun r s => σ = s) := by
  unfold f_X0_allGoods
  have e1 := zt_0
  unfold L_X0_allGoods_4
  refine zl_II (fun (x1 : Int32) (x2 : Int32) (s4_ : zg_S) => σ = s4_ ∧ 0 ≤ x2.toInt ∧ x2.toInt ≤ 9) (fun (x1 : Int32) (x2 : Int32) (s4_ : zg_S) => (9 - x2.toInt).toNat) ?_ zfu 0 0 σ ⟨rfl, (by omega), (by omega)⟩ (by unfold zfu; omega)
  intro rec4_ x1 x2 s4_ hI2 ih4_
  obtain ⟨rfl, i3, i4⟩ := hI2
  unfold B_X0_allGoods_4
  refine zk_ite (fun h5 => ?_) (fun h5 => ?_)
  · have g6 := zle h5
    have f7 : 0 ≤ (σ q0 3).toInt ∧ (σ q0 3).toInt ≤ 9 := IXf hσ hq0 3
    exact zk_some rfl
  · have g8 := znle h5
    have f9 : 0 ≤ (σ q0 3).toInt ∧ (σ q0 3).toInt ≤ 9 := IXf hσ hq0 3
    have z10 : zin x2 9 = true := zin_mkT (zTs x2) (by omega) (by omega)
    refine zk_in z10 ?_
    refine zk_let (fun y7 ey11 => ?_)
    exact ih4_ y7 (x2 + 1) σ ⟨rfl, (by rw [zTe (zTadd (zTs x2) (zTl zt_1) (by omega) (by omega))]; omega), (by rw [zTe (zTadd (zTs x2) (zTl zt_1) (by omega) (by omega))]; omega)⟩ (by show (9 - (x2 + 1).toInt).toNat < (9 - x2.toInt).toNat; rw [zTe (zTadd (zTs x2) (zTl zt_1) (by omega) (by omega))]; omega)

set_option maxHeartbeats 400000 in
theorem s_X0_draw (q0 : Nat) (σ : zg_S) (hσ : IX σ) (hq0 : XL.2.1 q0 = 0) : zk (f_X0_draw q0 σ) (fun r s => IX s) := by
  unfold f_X0_draw
  refine zk_let (fun y1 ey1 => ?_)
  refine zk_let (fun σ4 q3 => ?_)
  have hS2 : IX σ4 := by rw [q3]; exact IX.up hσ hq0 trivial
  exact zk_some hS2

set_option maxHeartbeats 400000 in
theorem s_X0_lastFirst (q0 : Nat) (σ : zg_S) (hσ : IX σ) (hq0 : XL.2.1 q0 = 0) : zk (f_X0_lastFirst q0 σ) (fun r s => σ = s) := by
  unfold f_X0_lastFirst
  exact zk_some rfl

theorem s_X6_held (a0 a1 a2 : Int32) (σ : zg_S) (hσ : IX σ) : zk (f_X6_held a0 a1 a2 σ) (fun r s => σ = s ∧ (a1.toInt ≤ a2.toInt → a1.toInt ≤ r.toInt ∧ r.toInt ≤ a2.toInt)) := by
  unfold f_X6_held
  refine zk_let (fun y ey => zk_some ⟨rfl, fun h => ?_⟩)
  subst ey
  by_cases c1 : a2 < a0
  · rw [if_pos c1]
    by_cases c2 : a1 < a2
    · rw [if_pos c2]; have := zlt c2; omega
    · rw [if_neg c2]; omega
  · rw [if_neg c1]
    have g1 := znlt c1
    by_cases c2 : a1 < a0
    · rw [if_pos c2]; have := zlt c2; omega
    · rw [if_neg c2]; omega

set_option maxHeartbeats 400000 in
theorem s_X0_blow (q0 : Nat) (σ : zg_S) (hσ : IX σ) (hq0 : XL.2.1 q0 = 0) : zk (f_X0_blow q0 σ) (fun r s => IX s) := by
  unfold f_X0_blow
  refine zk_call (s_X0_draw q0 σ hσ hq0) (fun r1 σ2 hp1 => ?_)
  have hS2 := hp1
  refine zk_ite (fun h3 => ?_) (fun h3 => ?_)
  · have g4 := zlt h3
    refine zk_call (s_X0_draw q0 σ2 hS2 hq0) (fun r10 σ11 hp5 => ?_)
    have hS6 := hp5
    refine zk_call (s_X0_lastFirst q0 σ11 hS6 hq0) (fun r19 σ20 hp7 => ?_)
    subst hp7
    have e8 := zt_0
    refine zk_call (s_X6_held ((σ11 q0 6) + ((r10 - r10 / 3 * 3) - 1)) 0 r19 σ11 hS6 ) (fun r26 σ27 hp9 => ?_)
    obtain ⟨rfl, x10⟩ := hp9
    refine zk_let (fun σ33 q12 => ?_)
    have hS11 : IX σ33 := by rw [q12]; exact IX.up hS6 hq0 trivial
    refine zk_ite (fun h13 => ?_) (fun h13 => ?_)
    · have g14 := zeq h13
      exact zk_some hS11
    · have g15 := zne h13
      refine zk_let (fun σ42 q17 => ?_)
      have hS16 : IX σ42 := by rw [q17]; exact IX.up hS11 hq0 trivial
      exact zk_some hS16
  · have g18 := znlt h3
    exact zk_some hS2

set_option maxHeartbeats 400000 in
theorem s_X6_within (a0 : Int32) (a1 : Int32) (a2 : Int32) (σ : zg_S) (hσ : IX σ)  : zk (f_X6_within a0 a1 a2 σ) (fun r s => σ = s ∧ (r = 0 ∨ (r = 1 ∧ a1.toInt ≤ a0.toInt ∧ a0.toInt ≤ a2.toInt))) := by
  unfold f_X6_within
  refine zk_ite (fun h1 => ?_) (fun h1 => ?_)
  · have g2 := zlt h1
    have e3 := zt_0
    exact zk_some ⟨rfl, (by first | exact Or.inl rfl | exact Or.inr rfl | assumption | omega | exact Or.inr ⟨rfl, by omega, by omega⟩ | exact Or.inr ⟨by omega, by omega⟩)⟩
  · have g4 := znlt h1
    refine zk_ite (fun h5 => ?_) (fun h5 => ?_)
    · have g6 := zlt h5
      have e7 := zt_0
      exact zk_some ⟨rfl, (by first | exact Or.inl rfl | exact Or.inr rfl | assumption | omega | exact Or.inr ⟨rfl, by omega, by omega⟩ | exact Or.inr ⟨by omega, by omega⟩)⟩
    · have g8 := znlt h5
      have e9 := zt_1
      exact zk_some ⟨rfl, (by first | exact Or.inl rfl | exact Or.inr rfl | assumption | omega | exact Or.inr ⟨rfl, by omega, by omega⟩ | exact Or.inr ⟨by omega, by omega⟩)⟩

theorem s_X2_hasPlace (q0 : Nat) (a1 : Int32) (σ : zg_S) (hσ : IX σ) (hq0 : XL.2.1 q0 = 2) : zk (f_X2_hasPlace q0 a1 σ) (fun r s => σ = s ∧ (r = 0 ∨ (r = 1 ∧ 0 ≤ a1.toInt ∧ a1.toInt < (σ q0 1).toInt))) := by
  unfold f_X2_hasPlace
  have f : 0 ≤ (σ q0 1).toInt ∧ (σ q0 1).toInt ≤ 24 := IXf hσ hq0 1
  have e1 := zt_1
  have e0 := zt_0
  have e := zsub (σ q0 1) 1 (by omega) (by omega)
  refine zk_call (s_X6_within a1 0 ((σ q0 1) - 1) σ hσ) (fun r s hp => ?_)
  obtain ⟨rfl, x⟩ := hp
  rcases x with rfl | ⟨rfl, d1, d2⟩
  · exact zk_ck (Or.inl rfl) (zk_some ⟨rfl, Or.inl rfl⟩)
  · exact zk_ck (Or.inr rfl) (zk_some ⟨rfl, Or.inr ⟨rfl, by omega, by omega⟩⟩)

set_option maxHeartbeats 400000 in
theorem s_X2_hasNumber (q0 : Nat) (a1 : Int32) (σ : zg_S) (hσ : IX σ) (hq0 : XL.2.1 q0 = 2) : zk (f_X2_hasNumber q0 a1 σ) (fun r s => σ = s ∧ (r = 0 ∨ (r = 1 ∧ 0 ≤ a1.toInt ∧ a1.toInt < (σ q0 1).toInt))) := by
  unfold f_X2_hasNumber
  refine zk_call (s_X2_hasPlace q0 a1 σ hσ hq0) (fun r1 σ2 hp1 => ?_)
  obtain ⟨rfl, x2⟩ := hp1
  have f3 : 0 ≤ (σ q0 1).toInt ∧ (σ q0 1).toInt ≤ 24 := IXf hσ hq0 1
  refine zk_ite (fun h7 => ?_) (fun h7 => ?_)
  · have g8 := zeq h7
    have e9 := zt_0
    exact zk_some ⟨rfl, (by first | exact Or.inl rfl | exact Or.inr rfl | assumption | omega | exact Or.inr ⟨rfl, by omega, by omega⟩ | exact Or.inr ⟨by omega, by omega⟩)⟩
  · have g10 := zne h7
    have e11 := zt_0
    obtain ⟨_d4, _d5, _d6⟩ := x2.resolve_left h7
    have z12 : zin a1 24 = true := zin_mkT (zTs a1) (by omega) (by omega)
    refine zk_in z12 ?_
    refine zk_ite (fun h13 => ?_) (fun h13 => ?_)
    · have g14 := zeq h13
      have e15 := zt_m1000000005
      exact zk_some ⟨rfl, (by first | exact Or.inl rfl | exact Or.inr rfl | assumption | omega | exact Or.inr ⟨rfl, by omega, by omega⟩ | exact Or.inr ⟨by omega, by omega⟩)⟩
    · have g16 := zne h13
      have e17 := zt_m1000000005
      have e18 := zt_1
      exact zk_some ⟨rfl, (by first | exact Or.inl rfl | exact Or.inr rfl | assumption | omega | exact Or.inr ⟨rfl, by omega, by omega⟩ | exact Or.inr ⟨by omega, by omega⟩)⟩

set_option maxHeartbeats 400000 in
theorem s_X0_differencesFrom (q0 : Nat) (q1 : Nat) (σ : zg_S) (hσ : IX σ) (hq0 : XL.2.1 q0 = 0) (hq1 : XL.2.1 q1 = 2) : zk (f_X0_differencesFrom q0 q1 σ) (fun r s => σ = s) := by
  unfold f_X0_differencesFrom
  have e1 := zt_0
  unfold L_X0_differencesFrom_4
  refine zl_II (fun (x2 : Int32) (x3 : Int32) (s4_ : zg_S) => σ = s4_ ∧ 0 ≤ x3.toInt ∧ x3.toInt ≤ 9) (fun (x2 : Int32) (x3 : Int32) (s4_ : zg_S) => (9 - x3.toInt).toNat) ?_ zfu 0 0 σ ⟨rfl, (by omega), (by omega)⟩ (by unfold zfu; omega)
  intro rec4_ x2 x3 s4_ hI2 ih4_
  obtain ⟨rfl, i3, i4⟩ := hI2
  unfold B_X0_differencesFrom_4
  refine zk_ite (fun h5 => ?_) (fun h5 => ?_)
  · have g6 := zle h5
    have f7 : 0 ≤ (σ q0 3).toInt ∧ (σ q0 3).toInt ≤ 9 := IXf hσ hq0 3
    exact zk_some rfl
  · have g8 := znle h5
    have f9 : 0 ≤ (σ q0 3).toInt ∧ (σ q0 3).toInt ≤ 9 := IXf hσ hq0 3
    refine zk_call (s_X2_hasNumber q1 x3 σ hσ hq1) (fun r6 σ7 hp10 => ?_)
    obtain ⟨rfl, x11⟩ := hp10
    have f12 : 0 ≤ (σ q1 1).toInt ∧ (σ q1 1).toInt ≤ 24 := IXf hσ hq1 1
    refine zk_ite (fun h16 => ?_) (fun h16 => ?_)
    · have g17 := zeq h16
      have e18 := zt_0
      unfold B_X0_differencesFrom_42
      exact ih4_ x2 (x3 + 1) σ ⟨rfl, (by rw [zTe (zTadd (zTs x3) (zTl zt_1) (by omega) (by omega))]; omega), (by rw [zTe (zTadd (zTs x3) (zTl zt_1) (by omega) (by omega))]; omega)⟩ (by show (9 - (x3 + 1).toInt).toNat < (9 - x3.toInt).toNat; rw [zTe (zTadd (zTs x3) (zTl zt_1) (by omega) (by omega))]; omega)
    · have g19 := zne h16
      have e20 := zt_0
      obtain ⟨_d13, _d14, _d15⟩ := x11.resolve_left h16
      have z21 : zin x3 9 = true := zin_mkT (zTs x3) (by omega) (by omega)
      refine zk_in z21 ?_
      have z22 : zin x3 24 = true := zin_mkT (zTs x3) (by omega) (by omega)
      refine zk_in z22 ?_
      refine zk_let (fun y22 ey23 => ?_)
      unfold B_X0_differencesFrom_42
      exact ih4_ (x2 + y22) (x3 + 1) σ ⟨rfl, (by rw [zTe (zTadd (zTs x3) (zTl zt_1) (by omega) (by omega))]; omega), (by rw [zTe (zTadd (zTs x3) (zTl zt_1) (by omega) (by omega))]; omega)⟩ (by show (9 - (x3 + 1).toInt).toNat < (9 - x3.toInt).toNat; rw [zTe (zTadd (zTs x3) (zTl zt_1) (by omega) (by omega))]; omega)

theorem s_X5_takeOver (q0 q1 : Nat) (σ : zg_S) (hσ : IX σ) (hq0 : XL.2.1 q0 = 5) (hq1 : XL.2.1 q1 = 5) : zk (f_X5_takeOver q0 q1 σ) (fun r s => IX s ∧ s q1 0 = σ q1 0 ∧ ∀ p k, XL.2.1 p = 0 → s p k = σ p k) := by
  unfold f_X5_takeOver
  refine zk_let (fun s1 e1 => ?_)
  have h1 : IX s1 := by rw [e1]; exact IX.up hσ hq0 trivial
  refine zk_let (fun s2 e2 => ?_)
  have h2 : IX s2 := by rw [e2]; exact IX.up h1 hq0 trivial
  refine zk_let (fun s3 e3 => ?_)
  have h3 : IX s3 := by rw [e3]; exact IX.up h2 hq0 (IXf h2 hq1 2)
  refine zk_ck (by decide) (zk_let (fun s4 e4 => zk_some ⟨?_, ?_, ?_⟩))
  · rw [e4]; exact IX.row h3 (xT1 hq0)
  · rw [e4]
    refine (zkeepr (xT1 hq0) hq1 rfl).trans ?_
    rw [e3]
    refine (zkeepk rfl).trans ?_
    rw [e2]
    refine (zkeepk rfl).trans ?_
    rw [e1]
    exact zself
  · intro p k hp
    rw [e4]
    refine (zkeepr (xT1 hq0) hp rfl).trans ?_
    rw [e3]
    refine (zkeep hq0 hp rfl).trans ?_
    rw [e2]
    refine (zkeep hq0 hp rfl).trans ?_
    rw [e1]
    exact zkeep hq0 hp rfl

theorem s_X0_enact (q0 q1 : Nat) (σ : zg_S) (hσ : IX σ) (hq0 : XL.2.1 q0 = 0) (hq1 : XL.2.1 q1 = 5) : zk (f_X0_enact q0 q1 σ) (fun r s => IX s) := by
  unfold f_X0_enact
  have f4 : 0 ≤ (σ q0 4).toInt ∧ (σ q0 4).toInt ≤ 14 := IXf hσ hq0 4
  have e0 := zt_0
  have e1 := zt_1
  have e2 := zt_2
  have e14 := zt_14
  refine zk_ite (fun _ => zk_some hσ) (fun h => ?_)
  have g := znle h
  refine zk_call (s_X6_within (σ q1 0) 0 2 σ hσ) (fun r s hp => ?_)
  obtain ⟨rfl, x⟩ := hp
  refine zk_ite (fun _ => zk_some hσ) (fun hn => ?_)
  obtain ⟨-, d1, d2⟩ := x.resolve_left hn
  have z : zin (σ q0 4) 14 = true := zin_mk (by omega) (by omega)
  refine zk_in z ?_
  refine zk_call (s_X5_takeOver _ q1 σ hσ (xT (zIn z).2) hq1) (fun r1 s1 hp => ?_)
  obtain ⟨h1, k0, kB⟩ := hp
  have z3 : zin (s1 q1 0) 3 = true := by rw [k0]; exact zin_mk (by omega) (by omega)
  refine zk_in z3 ?_
  refine zk_let (fun s2 q2 => ?_)
  have h2 : IX s2 := by rw [q2]; exact IX.up h1 (xB2 hq0) trivial
  have k4 : s2 q0 4 = σ q0 4 := by rw [q2]; exact (zkeep (xB2 hq0) hq0 rfl).trans (kB q0 4 hq0)
  have g4 := congrArg Int32.toInt k4
  have ea := zadd (s2 q0 4) 1 (by omega) (by omega)
  exact zk_let (fun s3 q3 => zk_some (by rw [q3]; exact IX.up h2 hq0 ⟨by omega, by omega⟩))
end
section
set_option maxHeartbeats 400000 in
theorem s_X0_slant (q0 : Nat) (σ : zg_S) (hσ : IX σ) (hq0 : XL.2.1 q0 = 0) : zk (f_X0_slant q0 σ) (fun r s => σ = s) := by
  unfold f_X0_slant
  exact zk_some rfl

set_option maxHeartbeats 400000 in
theorem s_X0_wouldShade (q0 : Nat) (a1 : Int32) (a2 : Int32) (σ : zg_S) (hσ : IX σ) (hq0 : XL.2.1 q0 = 0) : zk (f_X0_wouldShade q0 a1 a2 σ) (fun r s => σ = s ∧ (r = 0 ∨ r = 1)) := by
  unfold f_X0_wouldShade
  refine zk_call (s_X0_slant q0 σ hσ hq0) (fun r1 σ2 hp1 => ?_)
  subst hp1
  refine zk_ite (fun h2 => ?_) (fun h2 => ?_)
  · have g3 := zlt h2
    have e4 := zt_0
    exact zk_some ⟨rfl, (by first | exact Or.inl rfl | exact Or.inr rfl | assumption | omega | exact Or.inr ⟨rfl, by omega, by omega⟩ | exact Or.inr ⟨by omega, by omega⟩)⟩
  · have g5 := znlt h2
    refine zk_ite (fun h6 => ?_) (fun h6 => ?_)
    · have g7 := zle h6
      have e8 := zt_0
      exact zk_some ⟨rfl, (by first | exact Or.inl rfl | exact Or.inr rfl | assumption | omega | exact Or.inr ⟨rfl, by omega, by omega⟩ | exact Or.inr ⟨by omega, by omega⟩)⟩
    · have g9 := znle h6
      have e10 := zt_1
      exact zk_some ⟨rfl, (by first | exact Or.inl rfl | exact Or.inr rfl | assumption | omega | exact Or.inr ⟨rfl, by omega, by omega⟩ | exact Or.inr ⟨by omega, by omega⟩)⟩

set_option maxHeartbeats 400000 in
theorem s_X0_shades (q0 : Nat) (a1 : Int32) (σ : zg_S) (hσ : IX σ) (hq0 : XL.2.1 q0 = 0) : zk (f_X0_shades q0 a1 σ) (fun r s => σ = s ∧ (r = 0 ∨ r = 1)) := by
  unfold f_X0_shades
  refine zk_call (s_X0_wouldShade q0 (σ q0 6) a1 σ hσ hq0) (fun r1 σ2 hp1 => ?_)
  obtain ⟨rfl, x2⟩ := hp1
  refine zk_ck (by first | assumption | decide | omega | assumption) ?_
  exact zk_some ⟨rfl, (by first | exact Or.inl rfl | exact Or.inr rfl | assumption | omega | exact Or.inr ⟨rfl, by omega, by omega⟩ | exact Or.inr ⟨by omega, by omega⟩)⟩

set_option maxHeartbeats 400000 in
theorem s_X0_firstShaded (q0 : Nat) (σ : zg_S) (hσ : IX σ) (hq0 : XL.2.1 q0 = 0) : zk (f_X0_firstShaded q0 σ) (fun r s => σ = s) := by
  unfold f_X0_firstShaded
  have e1 := zt_0
  unfold L_X0_firstShaded_2
  refine zl_I (fun (x1 : Int32) (s2_ : zg_S) => σ = s2_ ∧ 0 ≤ x1.toInt ∧ x1.toInt ≤ 12) (fun (x1 : Int32) (s2_ : zg_S) => (12 - x1.toInt).toNat) ?_ zfu 0 σ ⟨rfl, (by omega), (by omega)⟩ (by unfold zfu; omega)
  intro rec2_ x1 s2_ hI2 ih2_
  obtain ⟨rfl, i3, i4⟩ := hI2
  unfold B_X0_firstShaded_2
  refine zk_ite (fun h5 => ?_) (fun h5 => ?_)
  · have g6 := zle h5
    have e7 := zt_12
    exact zk_some rfl
  · have g8 := znle h5
    have e9 := zt_12
    refine zk_call (s_X0_shades q0 x1 σ hσ hq0) (fun r4 σ5 hp10 => ?_)
    obtain ⟨rfl, x11⟩ := hp10
    refine zk_ite (fun h12 => ?_) (fun h12 => ?_)
    · have g13 := zeq h12
      have e14 := zt_0
      exact ih2_ (x1 + 1) σ ⟨rfl, (by rw [zTe (zTadd (zTs x1) (zTl zt_1) (by omega) (by omega))]; omega), (by rw [zTe (zTadd (zTs x1) (zTl zt_1) (by omega) (by omega))]; omega)⟩ (by show (12 - (x1 + 1).toInt).toNat < (12 - x1.toInt).toNat; rw [zTe (zTadd (zTs x1) (zTl zt_1) (by omega) (by omega))]; omega)
    · have g15 := zne h12
      have e16 := zt_0
      exact zk_some rfl

set_option maxHeartbeats 400000 in
theorem s_X0_hauledTo (q0 : Nat) (a1 : Int32) (σ : zg_S) (hσ : IX σ) (hq0 : XL.2.1 q0 = 0) : zk (f_X0_hauledTo q0 a1 σ) (fun r s => σ = s) := by
  unfold f_X0_hauledTo
  refine zk_ite (fun h1 => ?_) (fun h1 => ?_)
  · have g2 := zeq h1
    have e3 := zt_1
    refine zk_let (fun y3 ey4 => ?_)
    exact zk_some rfl
  · have g5 := zne h1
    have e6 := zt_1
    refine zk_ite (fun h7 => ?_) (fun h7 => ?_)
    · have g8 := zeq h7
      have e9 := zt_2
      refine zk_call (s_X0_lastFirst q0 σ hσ hq0) (fun r9 σ10 hp10 => ?_)
      subst hp10
      refine zk_let (fun y16 ey11 => ?_)
      have g12 := zmin ey11
      exact zk_some rfl
    · have g13 := zne h7
      have e14 := zt_2
      exact zk_some rfl

set_option maxHeartbeats 400000 in
theorem s_X4_shadeLoss (q0 : Nat) (σ : zg_S) (hσ : IX σ) (hq0 : XL.2.1 q0 = 4) : zk (f_X4_shadeLoss q0 σ) (fun r s => σ = s) := by
  unfold f_X4_shadeLoss
  refine zk_ite (fun h1 => ?_) (fun h1 => ?_)
  · have g2 := zeq h1
    have e3 := zt_4
    exact zk_some rfl
  · have g4 := zne h1
    have e5 := zt_4
    exact zk_some rfl

set_option maxHeartbeats 400000 in
theorem s_X0_heat (q0 : Nat) (σ : zg_S) (hσ : IX σ) (hq0 : XL.2.1 q0 = 0) : zk (f_X0_heat q0 σ) (fun r s => σ = s) := by
  unfold f_X0_heat
  refine zk_let (fun y1 ey1 => ?_)
  exact zk_some rfl

set_option maxHeartbeats 400000 in
theorem s_X5_joined (a0 : Int32) (a1 : Int32) (a2 : Int32) (σ : zg_S) (hσ : IX σ)  : zk (f_X5_joined a0 a1 a2 σ) (fun r s => σ = s) := by
  unfold f_X5_joined
  refine zk_ite (fun h1 => ?_) (fun h1 => ?_)
  · have g2 := zeq h1
    have e3 := zt_38
    refine zk_ite (fun h4 => ?_) (fun h4 => ?_)
    · have g5 := zeq h4
      have e6 := zt_0
      exact zk_some rfl
    · have g7 := zne h4
      have e8 := zt_0
      refine zk_ite (fun h9 => ?_) (fun h9 => ?_)
      · have g10 := zeq h9
        exact zk_some rfl
      · have g11 := zne h9
        exact zk_some rfl
  · have g12 := zne h1
    have e13 := zt_38
    refine zk_ite (fun h14 => ?_) (fun h14 => ?_)
    · have g15 := zeq h14
      have e16 := zt_42
      exact zk_some rfl
    · have g17 := zne h14
      have e18 := zt_42
      refine zk_ite (fun h19 => ?_) (fun h19 => ?_)
      · have g20 := zeq h19
        have e21 := zt_43
        exact zk_some rfl
      · have g22 := zne h19
        have e23 := zt_43
        refine zk_ite (fun h24 => ?_) (fun h24 => ?_)
        · have g25 := zeq h24
          have e26 := zt_45
          exact zk_some rfl
        · have g27 := zne h24
          have e28 := zt_45
          refine zk_ite (fun h29 => ?_) (fun h29 => ?_)
          · have g30 := zeq h29
            have e31 := zt_60
            refine zk_ite (fun h32 => ?_) (fun h32 => ?_)
            · have g33 := zle h32
              exact zk_some rfl
            · have g34 := znle h32
              exact zk_some rfl
          · have g35 := zne h29
            have e36 := zt_60
            refine zk_ite (fun h37 => ?_) (fun h37 => ?_)
            · have g38 := zeq h37
              have e39 := zt_61
              refine zk_ite (fun h40 => ?_) (fun h40 => ?_)
              · have g41 := zeq h40
                exact zk_some rfl
              · have g42 := zne h40
                exact zk_some rfl
            · have g43 := zne h37
              have e44 := zt_61
              refine zk_ite (fun h45 => ?_) (fun h45 => ?_)
              · have g46 := zeq h45
                have e47 := zt_62
                refine zk_ite (fun h48 => ?_) (fun h48 => ?_)
                · have g49 := zle h48
                  exact zk_some rfl
                · have g50 := znle h48
                  exact zk_some rfl
              · have g51 := zne h45
                have e52 := zt_62
                refine zk_ite (fun h53 => ?_) (fun h53 => ?_)
                · have g54 := zeq h53
                  have e55 := zt_124
                  refine zk_ite (fun h56 => ?_) (fun h56 => ?_)
                  · have g57 := zeq h56
                    have e58 := zt_0
                    refine zk_ite (fun h59 => ?_) (fun h59 => ?_)
                    · have g60 := zeq h59
                      exact zk_some rfl
                    · have g61 := zne h59
                      exact zk_some rfl
                  · have g62 := zne h56
                    have e63 := zt_0
                    exact zk_some rfl
                · have g64 := zne h53
                  have e65 := zt_124
                  refine zk_ite (fun h66 => ?_) (fun h66 => ?_)
                  · have g67 := zeq h66
                    have e68 := zt_0
                    exact zk_some rfl
                  · have g69 := zne h66
                    have e70 := zt_0
                    refine zk_nz (by first | assumption | omega) ?_
                    exact zk_some rfl
end
section
set_option maxHeartbeats 400000 in
theorem s_X5_workOut (q0 : Nat) (a1 : Int32) (a2 : Int32) (a3 : Int32) (σ : zg_S) (hσ : IX σ) (hq0 : XL.2.1 q0 = 5) : zk (f_X5_workOut q0 a1 a2 a3 σ) (fun r s => IX s) := by
  unfold f_X5_workOut
  have e1 := zt_m1
  have e2 := zt_0
  unfold L_X5_workOut_6
  refine zl_II (fun (x4 : Int32) (x5 : Int32) (s6_ : zg_S) => IX s6_ ∧ -1 ≤ x4.toInt ∧ x4.toInt ≤ 95 ∧ 0 ≤ x5.toInt ∧ x5.toInt ≤ 96) (fun (x4 : Int32) (x5 : Int32) (s6_ : zg_S) => (96 - x5.toInt).toNat) ?_ zfu (-1) 0 σ ⟨hσ, (by omega), (by omega), (by omega), (by omega)⟩ (by unfold zfu; omega)
  intro rec6_ x4 x5 s6_ hI3 ih6_
  obtain ⟨hS4, i5, i6, i7, i8⟩ := hI3
  unfold B_X5_workOut_6
  refine zk_ite (fun h9 => ?_) (fun h9 => ?_)
  · have g10 := zle h9
    have f11 : 0 ≤ (s6_ q0 2).toInt ∧ (s6_ q0 2).toInt ≤ 96 := IXf hS4 hq0 2
    refine zk_ite (fun h12 => ?_) (fun h12 => ?_)
    · have g13 := zle h12
      have e14 := zt_0
      have z15 : zin x4 96 = true := zin_mkT (zTs x4) (by omega) (by omega)
      refine zk_in z15 ?_
      exact zk_some hS4
    · have g16 := znle h12
      have e17 := zt_0
      exact zk_some hS4
  · have g18 := znle h9
    have f19 : 0 ≤ (s6_ q0 2).toInt ∧ (s6_ q0 2).toInt ≤ 96 := IXf hS4 hq0 2
    have z20 : zin x5 96 = true := zin_mkT (zTs x5) (by omega) (by omega)
    refine zk_in z20 ?_
    refine zk_let (fun y33 ey21 => ?_)
    refine zk_ite (fun h22 => ?_) (fun h22 => ?_)
    · have g23 := zle h22
      have e24 := zt_m1000
      refine zk_ite (fun h25 => ?_) (fun h25 => ?_)
      · have g26 := zeq h25
        have e27 := zt_m1033
        refine zk_ite (fun h28 => ?_) (fun h28 => ?_)
        · have g29 := zle h28
          have e30 := zt_0
          have z31 : zin x4 96 = true := zin_mkT (zTs x4) (by omega) (by omega)
          refine zk_in z31 ?_
          refine zk_ite (fun h32 => ?_) (fun h32 => ?_)
          · have g33 := zeq h32
            unfold B_X5_workOut_122
            refine zk_in z31 ?_
            refine zk_let (fun σ6 q35 => ?_)
            have hS34 : IX σ6 := by rw [q35]; exact IX.up hS4 (xT2 hq0) trivial
            unfold B_X5_workOut_169
            exact ih6_ x4 (x5 + 1) σ6 ⟨hS34, (by omega), (by omega), (by rw [zTe (zTadd (zTs x5) (zTl zt_1) (by omega) (by omega))]; omega), (by rw [zTe (zTadd (zTs x5) (zTl zt_1) (by omega) (by omega))]; omega)⟩ (by show (96 - (x5 + 1).toInt).toNat < (96 - x5.toInt).toNat; rw [zTe (zTadd (zTs x5) (zTl zt_1) (by omega) (by omega))]; omega)
          · have g36 := zne h32
            unfold B_X5_workOut_122
            refine zk_in z31 ?_
            refine zk_let (fun σ6 q38 => ?_)
            have hS37 : IX σ6 := by rw [q38]; exact IX.up hS4 (xT2 hq0) trivial
            unfold B_X5_workOut_169
            exact ih6_ x4 (x5 + 1) σ6 ⟨hS37, (by omega), (by omega), (by rw [zTe (zTadd (zTs x5) (zTl zt_1) (by omega) (by omega))]; omega), (by rw [zTe (zTadd (zTs x5) (zTl zt_1) (by omega) (by omega))]; omega)⟩ (by show (96 - (x5 + 1).toInt).toNat < (96 - x5.toInt).toNat; rw [zTe (zTadd (zTs x5) (zTl zt_1) (by omega) (by omega))]; omega)
        · have g39 := znle h28
          have e40 := zt_0
          exact zk_some hS4
      · have g41 := zne h25
        have e42 := zt_m1033
        refine zk_ite (fun h43 => ?_) (fun h43 => ?_)
        · have g44 := zle h43
          have e45 := zt_1
          have z46 : zin (x4 + (-1)) 96 = true := zin_mkT (zTadd (zTs x4) (zTl zt_m1) (by omega) (by omega)) (by omega) (by omega)
          refine zk_in z46 ?_
          have z47 : zin ((x4 + (-1)) + 1) 96 = true := zin_mkT (zTadd (zTadd (zTs x4) (zTl zt_m1) (by omega) (by omega)) (zTl zt_1) (by omega) (by omega)) (by omega) (by omega)
          refine zk_in z47 ?_
          refine zk_call (s_X5_joined ((-1000) - y33) (s6_ (q0 + 2) (Int32.toNatClampNeg (x4 + (-1)))) (s6_ (q0 + 2) (Int32.toNatClampNeg ((x4 + (-1)) + 1))) s6_ hS4 ) (fun r52 σ53 hp48 => ?_)
          subst hp48
          refine zk_let (fun σ59 q50 => ?_)
          have hS49 : IX σ59 := by rw [q50]; exact IX.up hS4 (xT2 hq0) trivial
          unfold B_X5_workOut_169
          exact ih6_ (x4 + (-1)) (x5 + 1) σ59 ⟨hS49, (by rw [zTe (zTadd (zTs x4) (zTl zt_m1) (by omega) (by omega))]; omega), (by rw [zTe (zTadd (zTs x4) (zTl zt_m1) (by omega) (by omega))]; omega), (by rw [zTe (zTadd (zTs x5) (zTl zt_1) (by omega) (by omega))]; omega), (by rw [zTe (zTadd (zTs x5) (zTl zt_1) (by omega) (by omega))]; omega)⟩ (by show (96 - (x5 + 1).toInt).toNat < (96 - x5.toInt).toNat; rw [zTe (zTadd (zTs x5) (zTl zt_1) (by omega) (by omega))]; omega)
        · have g51 := znle h43
          have e52 := zt_1
          exact zk_some hS4
    · have g53 := znle h22
      have e54 := zt_m1000
      refine zk_ite (fun h55 => ?_) (fun h55 => ?_)
      · have g56 := zlt h55
        have e57 := zt_95
        refine zk_ite (fun h58 => ?_) (fun h58 => ?_)
        · have g59 := zlt h58
          have e60 := zt_0
          refine zk_ite (fun h61 => ?_) (fun h61 => ?_)
          · have g62 := zeq h61
            have e63 := zt_m1
            unfold B_X5_workOut_82
            have z64 : zin (x4 + 1) 96 = true := zin_mkT (zTadd (zTs x4) (zTl zt_1) (by omega) (by omega)) (by omega) (by omega)
            refine zk_in z64 ?_
            refine zk_let (fun σ15 q66 => ?_)
            have hS65 : IX σ15 := by rw [q66]; exact IX.up hS4 (xT2 hq0) trivial
            unfold B_X5_workOut_169
            exact ih6_ (x4 + 1) (x5 + 1) σ15 ⟨hS65, (by rw [zTe (zTadd (zTs x4) (zTl zt_1) (by omega) (by omega))]; omega), (by rw [zTe (zTadd (zTs x4) (zTl zt_1) (by omega) (by omega))]; omega), (by rw [zTe (zTadd (zTs x5) (zTl zt_1) (by omega) (by omega))]; omega), (by rw [zTe (zTadd (zTs x5) (zTl zt_1) (by omega) (by omega))]; omega)⟩ (by show (96 - (x5 + 1).toInt).toNat < (96 - x5.toInt).toNat; rw [zTe (zTadd (zTs x5) (zTl zt_1) (by omega) (by omega))]; omega)
          · have g67 := zne h61
            have e68 := zt_m1
            refine zk_ite (fun h69 => ?_) (fun h69 => ?_)
            · have g70 := zeq h69
              have e71 := zt_m2
              unfold B_X5_workOut_82
              have z72 : zin (x4 + 1) 96 = true := zin_mkT (zTadd (zTs x4) (zTl zt_1) (by omega) (by omega)) (by omega) (by omega)
              refine zk_in z72 ?_
              refine zk_let (fun σ15 q74 => ?_)
              have hS73 : IX σ15 := by rw [q74]; exact IX.up hS4 (xT2 hq0) trivial
              unfold B_X5_workOut_169
              exact ih6_ (x4 + 1) (x5 + 1) σ15 ⟨hS73, (by rw [zTe (zTadd (zTs x4) (zTl zt_1) (by omega) (by omega))]; omega), (by rw [zTe (zTadd (zTs x4) (zTl zt_1) (by omega) (by omega))]; omega), (by rw [zTe (zTadd (zTs x5) (zTl zt_1) (by omega) (by omega))]; omega), (by rw [zTe (zTadd (zTs x5) (zTl zt_1) (by omega) (by omega))]; omega)⟩ (by show (96 - (x5 + 1).toInt).toNat < (96 - x5.toInt).toNat; rw [zTe (zTadd (zTs x5) (zTl zt_1) (by omega) (by omega))]; omega)
            · have g75 := zne h69
              have e76 := zt_m2
              unfold B_X5_workOut_82
              have z77 : zin (x4 + 1) 96 = true := zin_mkT (zTadd (zTs x4) (zTl zt_1) (by omega) (by omega)) (by omega) (by omega)
              refine zk_in z77 ?_
              refine zk_let (fun σ15 q79 => ?_)
              have hS78 : IX σ15 := by rw [q79]; exact IX.up hS4 (xT2 hq0) trivial
              unfold B_X5_workOut_169
              exact ih6_ (x4 + 1) (x5 + 1) σ15 ⟨hS78, (by rw [zTe (zTadd (zTs x4) (zTl zt_1) (by omega) (by omega))]; omega), (by rw [zTe (zTadd (zTs x4) (zTl zt_1) (by omega) (by omega))]; omega), (by rw [zTe (zTadd (zTs x5) (zTl zt_1) (by omega) (by omega))]; omega), (by rw [zTe (zTadd (zTs x5) (zTl zt_1) (by omega) (by omega))]; omega)⟩ (by show (96 - (x5 + 1).toInt).toNat < (96 - x5.toInt).toNat; rw [zTe (zTadd (zTs x5) (zTl zt_1) (by omega) (by omega))]; omega)
        · have g80 := znlt h58
          have e81 := zt_0
          unfold B_X5_workOut_82
          have z82 : zin (x4 + 1) 96 = true := zin_mkT (zTadd (zTs x4) (zTl zt_1) (by omega) (by omega)) (by omega) (by omega)
          refine zk_in z82 ?_
          refine zk_let (fun σ15 q84 => ?_)
          have hS83 : IX σ15 := by rw [q84]; exact IX.up hS4 (xT2 hq0) trivial
          unfold B_X5_workOut_169
          exact ih6_ (x4 + 1) (x5 + 1) σ15 ⟨hS83, (by rw [zTe (zTadd (zTs x4) (zTl zt_1) (by omega) (by omega))]; omega), (by rw [zTe (zTadd (zTs x4) (zTl zt_1) (by omega) (by omega))]; omega), (by rw [zTe (zTadd (zTs x5) (zTl zt_1) (by omega) (by omega))]; omega), (by rw [zTe (zTadd (zTs x5) (zTl zt_1) (by omega) (by omega))]; omega)⟩ (by show (96 - (x5 + 1).toInt).toNat < (96 - x5.toInt).toNat; rw [zTe (zTadd (zTs x5) (zTl zt_1) (by omega) (by omega))]; omega)
      · have g85 := znlt h55
        have e86 := zt_95
        exact zk_some hS4

set_option maxHeartbeats 400000 in
theorem s_X0_plainLoss (q0 : Nat) (q1 : Nat) (σ : zg_S) (hσ : IX σ) (hq0 : XL.2.1 q0 = 0) (hq1 : XL.2.1 q1 = 4) : zk (f_X0_plainLoss q0 q1 σ) (fun r s => IX s) := by
  unfold f_X0_plainLoss
  have e1 := zt_0
  have e2 := zt_13
  refine zk_call (s_X6_within (σ (q0 + 2) 0) 0 13 σ hσ ) (fun r3 σ4 hp3 => ?_)
  obtain ⟨rfl, x4⟩ := hp3
  refine zk_ite (fun h8 => ?_) (fun h8 => ?_)
  · have g9 := zeq h8
    refine zk_call (s_X0_heat q0 σ hσ hq0) (fun r37 σ38 hp10 => ?_)
    subst hp10
    exact zk_some hσ
  · have g11 := zne h8
    obtain ⟨_d5, _d6, _d7⟩ := x4.resolve_left h8
    have z12 : zin (σ (q0 + 2) 0) 14 = true := zin_mkT (zTs (σ (q0 + 2) 0)) (by omega) (by omega)
    refine zk_in z12 ?_
    refine zk_call (s_X0_heat q0 σ hσ hq0) (fun r15 σ16 hp13 => ?_)
    subst hp13
    refine zk_call (s_X5_workOut (11 + 3 * (Int32.toNatClampNeg (σ (q0 + 2) 0))) r15 (σ q1 2) (σ q1 3) σ hσ (xT (zIn z12).2)) (fun r22 σ23 hp14 => ?_)
    have hS15 := hp14
    refine zk_call (s_X6_held r22 0 (σ23 q1 2) σ23 hS15 ) (fun r29 σ30 hp16 => ?_)
    obtain ⟨rfl, x17⟩ := hp16
    exact zk_some hS15

set_option maxHeartbeats 400000 in
theorem s_X4_sunLoss (q0 : Nat) (a1 : Int32) (σ : zg_S) (hσ : IX σ) (hq0 : XL.2.1 q0 = 4) : zk (f_X4_sunLoss q0 a1 σ) (fun r s => σ = s) := by
  unfold f_X4_sunLoss
  refine zk_ite (fun h1 => ?_) (fun h1 => ?_)
  · have g2 := zeq h1
    have e3 := zt_1
    exact zk_some rfl
  · have g4 := zne h1
    have e5 := zt_1
    refine zk_ite (fun h6 => ?_) (fun h6 => ?_)
    · have g7 := zeq h6
      have e8 := zt_2
      exact zk_some rfl
    · have g9 := zne h6
      have e10 := zt_2
      refine zk_ite (fun h11 => ?_) (fun h11 => ?_)
      · have g12 := zeq h11
        have e13 := zt_3
        exact zk_some rfl
      · have g14 := zne h11
        have e15 := zt_3
        refine zk_ite (fun h16 => ?_) (fun h16 => ?_)
        · have g17 := zeq h16
          have e18 := zt_4
          exact zk_some rfl
        · have g19 := zne h16
          have e20 := zt_4
          refine zk_ite (fun h21 => ?_) (fun h21 => ?_)
          · have g22 := zeq h21
            have e23 := zt_5
            exact zk_some rfl
          · have g24 := zne h21
            have e25 := zt_5
            exact zk_some rfl

set_option maxHeartbeats 400000 in
theorem s_X0_lossOf (q0 : Nat) (q1 : Nat) (σ : zg_S) (hσ : IX σ) (hq0 : XL.2.1 q0 = 0) (hq1 : XL.2.1 q1 = 4) : zk (f_X0_lossOf q0 q1 σ) (fun r s => IX s) := by
  unfold f_X0_lossOf
  refine zk_ite (fun h1 => ?_) (fun h1 => ?_)
  · have g2 := zeq h1
    have e3 := zt_0
    exact zk_some hσ
  · have g4 := zne h1
    have e5 := zt_0
    refine zk_call (s_X0_shades q0 (σ q1 1) σ hσ hq0) (fun r8 σ9 hp6 => ?_)
    obtain ⟨rfl, x7⟩ := hp6
    refine zk_ite (fun h8 => ?_) (fun h8 => ?_)
    · have g9 := zeq h8
      refine zk_call (s_X0_plainLoss q0 q1 σ hσ hq0 hq1) (fun r17 σ18 hp10 => ?_)
      have hS11 := hp10
      refine zk_call (s_X4_sunLoss q1 r17 σ18 hS11 hq1) (fun r24 σ25 hp12 => ?_)
      subst hp12
      unfold B_X0_lossOf_36
      refine zk_let (fun y3 ey13 => ?_)
      have g14 := zmin ey13
      exact zk_some hS11
    · have g15 := zne h8
      refine zk_call (s_X4_shadeLoss q1 σ hσ hq1) (fun r32 σ33 hp16 => ?_)
      subst hp16
      unfold B_X0_lossOf_36
      refine zk_let (fun y3 ey17 => ?_)
      have g18 := zmin ey17
      exact zk_some hσ
end
section
set_option maxHeartbeats 400000 in
theorem s_X0_haulingByLoss (q0 : Nat) (σ : zg_S) (hσ : IX σ) (hq0 : XL.2.1 q0 = 0) : zk (f_X0_haulingByLoss q0 σ) (fun r s => IX s) := by
  unfold f_X0_haulingByLoss
  have e1 := zt_0
  unfold L_X0_haulingByLoss_6
  refine zl_III (fun (x1 : Int32) (x2 : Int32) (x3 : Int32) (s6_ : zg_S) => IX s6_ ∧ 0 ≤ x3.toInt ∧ x3.toInt ≤ 9) (fun (x1 : Int32) (x2 : Int32) (x3 : Int32) (s6_ : zg_S) => (9 - x3.toInt).toNat) ?_ zfu 0 0 0 σ ⟨hσ, (by omega), (by omega)⟩ (by unfold zfu; omega)
  intro rec6_ x1 x2 x3 s6_ hI2 ih6_
  obtain ⟨hS3, i4, i5⟩ := hI2
  unfold B_X0_haulingByLoss_6
  refine zk_ite (fun h6 => ?_) (fun h6 => ?_)
  · have g7 := zle h6
    have f8 : 0 ≤ (s6_ q0 3).toInt ∧ (s6_ q0 3).toInt ≤ 9 := IXf hS3 hq0 3
    exact zk_some hS3
  · have g9 := znle h6
    have f10 : 0 ≤ (s6_ q0 3).toInt ∧ (s6_ q0 3).toInt ≤ 9 := IXf hS3 hq0 3
    have z11 : zin x3 9 = true := zin_mkT (zTs x3) (by omega) (by omega)
    refine zk_in z11 ?_
    refine zk_call (s_X0_shades q0 (s6_ ((q0 + 1) + 2 + (Int32.toNatClampNeg x3)) 1) s6_ hS3 hq0) (fun r30 σ31 hp12 => ?_)
    obtain ⟨rfl, x13⟩ := hp12
    refine zk_ite (fun h14 => ?_) (fun h14 => ?_)
    · have g15 := zeq h14
      have e16 := zt_0
      refine zk_call (s_X0_lossOf q0 ((q0 + 1) + 2 + (Int32.toNatClampNeg x3)) s6_ hS3 hq0 (xS (xB1 hq0) (zIn z11).2)) (fun r39 σ40 hp17 => ?_)
      have hS18 := hp17
      unfold B_X0_haulingByLoss_44
      refine zk_ite (fun h19 => ?_) (fun h19 => ?_)
      · have g20 := zle h19
        unfold B_X0_haulingByLoss_78
        exact ih6_ x1 x2 (x3 + 1) σ40 ⟨hS18, (by rw [zTe (zTadd (zTs x3) (zTl zt_1) (by omega) (by omega))]; omega), (by rw [zTe (zTadd (zTs x3) (zTl zt_1) (by omega) (by omega))]; omega)⟩ (by show (9 - (x3 + 1).toInt).toNat < (9 - x3.toInt).toNat; rw [zTe (zTadd (zTs x3) (zTl zt_1) (by omega) (by omega))]; omega)
      · have g21 := znle h19
        refine zk_call (s_X0_slant q0 σ40 hS18 hq0) (fun r12 σ13 hp22 => ?_)
        subst hp22
        refine zk_ite (fun h23 => ?_) (fun h23 => ?_)
        · have g24 := zle h23
          unfold B_X0_haulingByLoss_77
          unfold B_X0_haulingByLoss_78
          exact ih6_ 2 r39 (x3 + 1) σ40 ⟨hS18, (by rw [zTe (zTadd (zTs x3) (zTl zt_1) (by omega) (by omega))]; omega), (by rw [zTe (zTadd (zTs x3) (zTl zt_1) (by omega) (by omega))]; omega)⟩ (by show (9 - (x3 + 1).toInt).toNat < (9 - x3.toInt).toNat; rw [zTe (zTadd (zTs x3) (zTl zt_1) (by omega) (by omega))]; omega)
        · have g25 := znle h23
          unfold B_X0_haulingByLoss_77
          unfold B_X0_haulingByLoss_78
          exact ih6_ 1 r39 (x3 + 1) σ40 ⟨hS18, (by rw [zTe (zTadd (zTs x3) (zTl zt_1) (by omega) (by omega))]; omega), (by rw [zTe (zTadd (zTs x3) (zTl zt_1) (by omega) (by omega))]; omega)⟩ (by show (9 - (x3 + 1).toInt).toNat < (9 - x3.toInt).toNat; rw [zTe (zTadd (zTs x3) (zTl zt_1) (by omega) (by omega))]; omega)
    · have g26 := zne h14
      have e27 := zt_0
      unfold B_X0_haulingByLoss_44
      refine zk_ite (fun h28 => ?_) (fun h28 => ?_)
      · have g29 := zle h28
        unfold B_X0_haulingByLoss_78
        exact ih6_ x1 x2 (x3 + 1) s6_ ⟨hS3, (by rw [zTe (zTadd (zTs x3) (zTl zt_1) (by omega) (by omega))]; omega), (by rw [zTe (zTadd (zTs x3) (zTl zt_1) (by omega) (by omega))]; omega)⟩ (by show (9 - (x3 + 1).toInt).toNat < (9 - x3.toInt).toNat; rw [zTe (zTadd (zTs x3) (zTl zt_1) (by omega) (by omega))]; omega)
      · have g30 := znle h28
        refine zk_call (s_X0_slant q0 s6_ hS3 hq0) (fun r12 σ13 hp31 => ?_)
        subst hp31
        refine zk_ite (fun h32 => ?_) (fun h32 => ?_)
        · have g33 := zle h32
          unfold B_X0_haulingByLoss_77
          unfold B_X0_haulingByLoss_78
          exact ih6_ 2 0 (x3 + 1) s6_ ⟨hS3, (by rw [zTe (zTadd (zTs x3) (zTl zt_1) (by omega) (by omega))]; omega), (by rw [zTe (zTadd (zTs x3) (zTl zt_1) (by omega) (by omega))]; omega)⟩ (by show (9 - (x3 + 1).toInt).toNat < (9 - x3.toInt).toNat; rw [zTe (zTadd (zTs x3) (zTl zt_1) (by omega) (by omega))]; omega)
        · have g34 := znle h32
          unfold B_X0_haulingByLoss_77
          unfold B_X0_haulingByLoss_78
          exact ih6_ 1 0 (x3 + 1) s6_ ⟨hS3, (by rw [zTe (zTadd (zTs x3) (zTl zt_1) (by omega) (by omega))]; omega), (by rw [zTe (zTadd (zTs x3) (zTl zt_1) (by omega) (by omega))]; omega)⟩ (by show (9 - (x3 + 1).toInt).toNat < (9 - x3.toInt).toNat; rw [zTe (zTadd (zTs x3) (zTl zt_1) (by omega) (by omega))]; omega)

set_option maxHeartbeats 400000 in
theorem s_X0_payUnder (q0 : Nat) (a1 : Int32) (σ : zg_S) (hσ : IX σ) (hq0 : XL.2.1 q0 = 0) : zk (f_X0_payUnder q0 a1 σ) (fun r s => σ = s) := by
  unfold f_X0_payUnder
  have e1 := zt_0
  unfold L_X0_payUnder_4
  refine zl_II (fun (x2 : Int32) (x3 : Int32) (s4_ : zg_S) => σ = s4_ ∧ 0 ≤ x3.toInt ∧ x3.toInt ≤ 9) (fun (x2 : Int32) (x3 : Int32) (s4_ : zg_S) => (9 - x3.toInt).toNat) ?_ zfu 0 0 σ ⟨rfl, (by omega), (by omega)⟩ (by unfold zfu; omega)
  intro rec4_ x2 x3 s4_ hI2 ih4_
  obtain ⟨rfl, i3, i4⟩ := hI2
  unfold B_X0_payUnder_4
  refine zk_ite (fun h5 => ?_) (fun h5 => ?_)
  · have g6 := zle h5
    have f7 : 0 ≤ (σ q0 3).toInt ∧ (σ q0 3).toInt ≤ 9 := IXf hσ hq0 3
    exact zk_some rfl
  · have g8 := znle h5
    have f9 : 0 ≤ (σ q0 3).toInt ∧ (σ q0 3).toInt ≤ 9 := IXf hσ hq0 3
    have z10 : zin x3 9 = true := zin_mkT (zTs x3) (by omega) (by omega)
    refine zk_in z10 ?_
    refine zk_call (s_X0_wouldShade q0 a1 (σ ((q0 + 1) + 2 + (Int32.toNatClampNeg x3)) 1) σ hσ hq0) (fun r9 σ10 hp11 => ?_)
    obtain ⟨rfl, x12⟩ := hp11
    refine zk_ite (fun h13 => ?_) (fun h13 => ?_)
    · have g14 := zeq h13
      have e15 := zt_0
      unfold B_X0_payUnder_41
      exact ih4_ x2 (x3 + 1) σ ⟨rfl, (by rw [zTe (zTadd (zTs x3) (zTl zt_1) (by omega) (by omega))]; omega), (by rw [zTe (zTadd (zTs x3) (zTl zt_1) (by omega) (by omega))]; omega)⟩ (by show (9 - (x3 + 1).toInt).toNat < (9 - x3.toInt).toNat; rw [zTe (zTadd (zTs x3) (zTl zt_1) (by omega) (by omega))]; omega)
    · have g16 := zne h13
      have e17 := zt_0
      refine zk_let (fun y19 ey18 => ?_)
      unfold B_X0_payUnder_41
      exact ih4_ y19 (x3 + 1) σ ⟨rfl, (by rw [zTe (zTadd (zTs x3) (zTl zt_1) (by omega) (by omega))]; omega), (by rw [zTe (zTadd (zTs x3) (zTl zt_1) (by omega) (by omega))]; omega)⟩ (by show (9 - (x3 + 1).toInt).toNat < (9 - x3.toInt).toNat; rw [zTe (zTadd (zTs x3) (zTl zt_1) (by omega) (by omega))]; omega)

set_option maxHeartbeats 400000 in
theorem s_X0_haulingByPay (q0 : Nat) (σ : zg_S) (hσ : IX σ) (hq0 : XL.2.1 q0 = 0) : zk (f_X0_haulingByPay q0 σ) (fun r s => σ = s) := by
  unfold f_X0_haulingByPay
  have e1 := zt_0
  unfold L_X0_haulingByPay_6
  refine zl_III (fun (x1 : Int32) (x2 : Int32) (x3 : Int32) (s6_ : zg_S) => σ = s6_ ∧ 0 ≤ x3.toInt ∧ x3.toInt ≤ 3) (fun (x1 : Int32) (x2 : Int32) (x3 : Int32) (s6_ : zg_S) => (3 - x3.toInt).toNat) ?_ zfu 0 (-1) 0 σ ⟨rfl, (by omega), (by omega)⟩ (by unfold zfu; omega)
  intro rec6_ x1 x2 x3 s6_ hI2 ih6_
  obtain ⟨rfl, i3, i4⟩ := hI2
  unfold B_X0_haulingByPay_6
  refine zk_ite (fun h5 => ?_) (fun h5 => ?_)
  · have g6 := zle h5
    have e7 := zt_3
    exact zk_some rfl
  · have g8 := znle h5
    have e9 := zt_3
    refine zk_call (s_X0_hauledTo q0 x3 σ hσ hq0) (fun r6 σ7 hp10 => ?_)
    subst hp10
    refine zk_call (s_X0_payUnder q0 r6 σ hσ hq0) (fun r13 σ14 hp11 => ?_)
    subst hp11
    refine zk_ite (fun h12 => ?_) (fun h12 => ?_)
    · have g13 := zle h12
      unfold B_X0_haulingByPay_33
      exact ih6_ x1 x2 (x3 + 1) σ ⟨rfl, (by rw [zTe (zTadd (zTs x3) (zTl zt_1) (by omega) (by omega))]; omega), (by rw [zTe (zTadd (zTs x3) (zTl zt_1) (by omega) (by omega))]; omega)⟩ (by show (3 - (x3 + 1).toInt).toNat < (3 - x3.toInt).toNat; rw [zTe (zTadd (zTs x3) (zTl zt_1) (by omega) (by omega))]; omega)
    · have g14 := znle h12
      unfold B_X0_haulingByPay_33
      exact ih6_ x3 r13 (x3 + 1) σ ⟨rfl, (by rw [zTe (zTadd (zTs x3) (zTl zt_1) (by omega) (by omega))]; omega), (by rw [zTe (zTadd (zTs x3) (zTl zt_1) (by omega) (by omega))]; omega)⟩ (by show (3 - (x3 + 1).toInt).toNat < (3 - x3.toInt).toNat; rw [zTe (zTadd (zTs x3) (zTl zt_1) (by omega) (by omega))]; omega)

set_option maxHeartbeats 400000 in
theorem s_X0_hauling (q0 : Nat) (σ : zg_S) (hσ : IX σ) (hq0 : XL.2.1 q0 = 0) : zk (f_X0_hauling q0 σ) (fun r s => IX s) := by
  unfold f_X0_hauling
  refine zk_ite (fun h1 => ?_) (fun h1 => ?_)
  · have g2 := zeq h1
    have e3 := zt_1
    refine zk_call (s_X0_haulingByLoss q0 σ hσ hq0) (fun r3 σ4 hp4 => ?_)
    have hS5 := hp4
    exact zk_some hS5
  · have g6 := zne h1
    have e7 := zt_1
    refine zk_ite (fun h8 => ?_) (fun h8 => ?_)
    · have g9 := zeq h8
      have e10 := zt_2
      refine zk_call (s_X0_haulingByPay q0 σ hσ hq0) (fun r13 σ14 hp11 => ?_)
      subst hp11
      exact zk_some hσ
    · have g12 := zne h8
      have e13 := zt_2
      exact zk_some hσ

set_option maxHeartbeats 400000 in
theorem s_X0_open (q0 : Nat) (a1 : Int32) (a2 : Int32) (a3 : Int32) (σ : zg_S) (hσ : IX σ) (hq0 : XL.2.1 q0 = 0) : zk (f_X0_open q0 a1 a2 a3 σ) (fun r s => IX s) := by
  unfold f_X0_open
  refine zk_ite (fun h1 => ?_) (fun h1 => ?_)
  · have g2 := zlt h1
    have f3 : 0 ≤ (σ q0 3).toInt ∧ (σ q0 3).toInt ≤ 9 := IXf hσ hq0 3
    have e4 := zt_9
    have z5 : zin (σ q0 3) 9 = true := zin_mkT (zTs (σ q0 3)) (by omega) (by omega)
    refine zk_in z5 ?_
    refine zk_let (fun σ8 q7 => ?_)
    have hS6 : IX σ8 := by rw [q7]; exact IX.up hσ (xS (xB1 hq0) (zIn z5).2) trivial
    have kp8 : σ8 q0 3 = σ q0 3 := by rw [q7]; exact zkeep (xS (xB1 hq0) (zIn z5).2) hq0 rfl
    refine zk_let (fun σ14 q10 => ?_)
    have hS9 : IX σ14 := by rw [q10]; exact IX.up hS6 (xS (xB1 hq0) (zIn z5).2) trivial
    have kp11 : σ14 q0 3 = σ8 q0 3 := by rw [q10]; exact zkeep (xS (xB1 hq0) (zIn z5).2) hq0 rfl
    refine zk_let (fun σ20 q13 => ?_)
    have hS12 : IX σ20 := by rw [q13]; exact IX.up hS9 (xS (xB1 hq0) (zIn z5).2) trivial
    have kp14 : σ20 q0 3 = σ14 q0 3 := by rw [q13]; exact zkeep (xS (xB1 hq0) (zIn z5).2) hq0 rfl
    refine zk_let (fun σ26 q16 => ?_)
    have hS15 : IX σ26 := by rw [q16]; exact IX.up hS12 (xS (xB1 hq0) (zIn z5).2) trivial
    have kp17 : σ26 q0 3 = σ20 q0 3 := by rw [q16]; exact zkeep (xS (xB1 hq0) (zIn z5).2) hq0 rfl
    refine zk_let (fun σ32 q19 => ?_)
    have g20 := congrArg Int32.toInt (kp17.trans (kp14.trans (kp11.trans (kp8.trans rfl))))
    have f21 : 0 ≤ (σ26 q0 3).toInt ∧ (σ26 q0 3).toInt ≤ 9 := IXf hS15 hq0 3
    have hS18 : IX σ32 := by rw [q19]; exact IX.up hS15 hq0 (xconT (zTadd (zTs (σ26 q0 3)) (zTl zt_1) (by omega) (by omega)) ⟨by omega, by omega⟩)
    exact zk_some hS18
  · have g22 := znlt h1
    have f23 : 0 ≤ (σ q0 3).toInt ∧ (σ q0 3).toInt ≤ 9 := IXf hσ hq0 3
    have e24 := zt_9
    exact zk_some hσ

set_option maxHeartbeats 400000 in
theorem s_X0_passHour (q0 : Nat) (a1 : Int32) (σ : zg_S) (hσ : IX σ) (hq0 : XL.2.1 q0 = 0) : zk (f_X0_passHour q0 a1 σ) (fun r s => IX s) := by
  unfold f_X0_passHour
  refine zk_call (s_X0_hauledTo q0 a1 σ hσ hq0) (fun r67 σ68 hp1 => ?_)
  subst hp1
  refine zk_let (fun σ74 q3 => ?_)
  have hS2 : IX σ74 := by rw [q3]; exact IX.up hσ hq0 trivial
  have e4 := zt_0
  unfold L_X0_passHour_11
  refine zl_I (fun (x2 : Int32) (s11_ : zg_S) => IX s11_ ∧ 0 ≤ x2.toInt ∧ x2.toInt ≤ 9) (fun (x2 : Int32) (s11_ : zg_S) => (9 - x2.toInt).toNat) ?_ zfu 0 σ74 ⟨hS2, (by omega), (by omega)⟩ (by unfold zfu; omega)
  intro rec11_ x2 s11_ hI5 ih11_
  obtain ⟨hS6, i7, i8⟩ := hI5
  unfold B_X0_passHour_11
  refine zk_ite (fun h9 => ?_) (fun h9 => ?_)
  · have g10 := zle h9
    have f11 : 0 ≤ (s11_ q0 3).toInt ∧ (s11_ q0 3).toInt ≤ 9 := IXf hS6 hq0 3
    refine zk_call (s_X0_blow q0 s11_ hS6 hq0) (fun r5 σ6 hp12 => ?_)
    have hS13 := hp12
    refine zk_let (fun σ12 q15 => ?_)
    have hS14 : IX σ12 := by rw [q15]; exact IX.up hS13 hq0 trivial
    exact zk_some hS14
  · have g16 := znle h9
    have f17 : 0 ≤ (s11_ q0 3).toInt ∧ (s11_ q0 3).toInt ≤ 9 := IXf hS6 hq0 3
    have z18 : zin x2 9 = true := zin_mkT (zTs x2) (by omega) (by omega)
    refine zk_in z18 ?_
    refine zk_call (s_X0_lossOf q0 ((q0 + 1) + 2 + (Int32.toNatClampNeg x2)) s11_ hS6 hq0 (xS (xB1 hq0) (zIn z18).2)) (fun r24 σ25 hp19 => ?_)
    have hS20 := hp19
    refine zk_let (fun y33 ey21 => ?_)
    refine zk_let (fun σ36 q23 => ?_)
    have hS22 : IX σ36 := by rw [q23]; exact IX.up hS20 (xS (xB1 hq0) (zIn z18).2) trivial
    refine zk_let (fun σ42 q25 => ?_)
    have hS24 : IX σ42 := by rw [q25]; exact IX.up hS22 hq0 trivial
    refine zk_call (s_X0_shades q0 (σ42 ((q0 + 1) + 2 + (Int32.toNatClampNeg x2)) 1) σ42 hS24 hq0) (fun r48 σ49 hp26 => ?_)
    obtain ⟨rfl, x27⟩ := hp26
    refine zk_ite (fun h28 => ?_) (fun h28 => ?_)
    · have g29 := zeq h28
      have e30 := zt_0
      unfold B_X0_passHour_79
      exact ih11_ (x2 + 1) σ42 ⟨hS24, (by rw [zTe (zTadd (zTs x2) (zTl zt_1) (by omega) (by omega))]; omega), (by rw [zTe (zTadd (zTs x2) (zTl zt_1) (by omega) (by omega))]; omega)⟩ (by show (9 - (x2 + 1).toInt).toNat < (9 - x2.toInt).toNat; rw [zTe (zTadd (zTs x2) (zTl zt_1) (by omega) (by omega))]; omega)
    · have g31 := zne h28
      have e32 := zt_0
      refine zk_let (fun y58 ey33 => ?_)
      refine zk_let (fun σ61 q35 => ?_)
      have hS34 : IX σ61 := by rw [q35]; exact IX.up hS24 hq0 trivial
      unfold B_X0_passHour_79
      exact ih11_ (x2 + 1) σ61 ⟨hS34, (by rw [zTe (zTadd (zTs x2) (zTl zt_1) (by omega) (by omega))]; omega), (by rw [zTe (zTadd (zTs x2) (zTl zt_1) (by omega) (by omega))]; omega)⟩ (by show (9 - (x2 + 1).toInt).toNat < (9 - x2.toInt).toNat; rw [zTe (zTadd (zTs x2) (zTl zt_1) (by omega) (by omega))]; omega)

set_option maxHeartbeats 400000 in
theorem s_X0_shadedSet (q0 : Nat) (σ : zg_S) (hσ : IX σ) (hq0 : XL.2.1 q0 = 0) : zk (f_X0_shadedSet q0 σ) (fun r s => σ = s) := by
  unfold f_X0_shadedSet
  have e1 := zt_0
  unfold L_X0_shadedSet_4
  refine zl_II (fun (x1 : Int32) (x2 : Int32) (s4_ : zg_S) => σ = s4_ ∧ 0 ≤ x2.toInt ∧ x2.toInt ≤ 9) (fun (x1 : Int32) (x2 : Int32) (s4_ : zg_S) => (9 - x2.toInt).toNat) ?_ zfu 0 0 σ ⟨rfl, (by omega), (by omega)⟩ (by unfold zfu; omega)
  intro rec4_ x1 x2 s4_ hI2 ih4_
  obtain ⟨rfl, i3, i4⟩ := hI2
  unfold B_X0_shadedSet_4
  refine zk_ite (fun h5 => ?_) (fun h5 => ?_)
  · have g6 := zle h5
    have f7 : 0 ≤ (σ q0 3).toInt ∧ (σ q0 3).toInt ≤ 9 := IXf hσ hq0 3
    exact zk_some rfl
  · have g8 := znle h5
    have f9 : 0 ≤ (σ q0 3).toInt ∧ (σ q0 3).toInt ≤ 9 := IXf hσ hq0 3
    have z10 : zin x2 9 = true := zin_mkT (zTs x2) (by omega) (by omega)
    refine zk_in z10 ?_
    refine zk_call (s_X0_shades q0 (σ ((q0 + 1) + 2 + (Int32.toNatClampNeg x2)) 1) σ hσ hq0) (fun r9 σ10 hp11 => ?_)
    obtain ⟨rfl, x12⟩ := hp11
    refine zk_ite (fun h13 => ?_) (fun h13 => ?_)
    · have g14 := zeq h13
      have e15 := zt_0
      unfold B_X0_shadedSet_34
      exact ih4_ x1 (x2 + 1) σ ⟨rfl, (by rw [zTe (zTadd (zTs x2) (zTl zt_1) (by omega) (by omega))]; omega), (by rw [zTe (zTadd (zTs x2) (zTl zt_1) (by omega) (by omega))]; omega)⟩ (by show (9 - (x2 + 1).toInt).toNat < (9 - x2.toInt).toNat; rw [zTe (zTadd (zTs x2) (zTl zt_1) (by omega) (by omega))]; omega)
    · have g16 := zne h13
      have e17 := zt_0
      unfold B_X0_shadedSet_34
      exact ih4_ (x1 ||| (1 <<< (x2 &&& 31))) (x2 + 1) σ ⟨rfl, (by rw [zTe (zTadd (zTs x2) (zTl zt_1) (by omega) (by omega))]; omega), (by rw [zTe (zTadd (zTs x2) (zTl zt_1) (by omega) (by omega))]; omega)⟩ (by show (9 - (x2 + 1).toInt).toNat < (9 - x2.toInt).toNat; rw [zTe (zTadd (zTs x2) (zTl zt_1) (by omega) (by omega))]; omega)
end
section
set_option maxHeartbeats 400000 in
theorem s_X4_takeOver (q0 : Nat) (q1 : Nat) (σ : zg_S) (hσ : IX σ) (hq0 : XL.2.1 q0 = 4) (hq1 : XL.2.1 q1 = 4) : zk (f_X4_takeOver q0 q1 σ) (fun r s => IX s) := by
  unfold f_X4_takeOver
  refine zk_let (fun σ1 q2 => ?_)
  have hS1 : IX σ1 := by rw [q2]; exact IX.up hσ hq0 trivial
  refine zk_let (fun σ7 q4 => ?_)
  have hS3 : IX σ7 := by rw [q4]; exact IX.up hS1 hq0 trivial
  refine zk_let (fun σ13 q6 => ?_)
  have hS5 : IX σ13 := by rw [q6]; exact IX.up hS3 hq0 trivial
  refine zk_let (fun σ19 q8 => ?_)
  have hS7 : IX σ19 := by rw [q8]; exact IX.up hS5 hq0 trivial
  exact zk_some hS7

set_option maxHeartbeats 400000 in
theorem s_X0_takeOver (q0 : Nat) (q1 : Nat) (σ : zg_S) (hσ : IX σ) (hq0 : XL.2.1 q0 = 0) (hq1 : XL.2.1 q1 = 0) : zk (f_X0_takeOver q0 q1 σ) (fun r s => IX s) := by
  unfold f_X0_takeOver
  refine zk_let (fun σ95 q2 => ?_)
  have f3 : 0 ≤ (σ q1 3).toInt ∧ (σ q1 3).toInt ≤ 9 := IXf hσ hq1 3
  have hS1 : IX σ95 := by rw [q2]; exact IX.up hσ hq0 (xconT (zTs (σ q1 3)) ⟨by omega, by omega⟩)
  have e4 := zt_0
  unfold L_X0_takeOver_10
  refine zl_I (fun (x2 : Int32) (s10_ : zg_S) => IX s10_ ∧ 0 ≤ x2.toInt ∧ x2.toInt ≤ 9) (fun (x2 : Int32) (s10_ : zg_S) => (9 - x2.toInt).toNat) ?_ zfu 0 σ95 ⟨hS1, (by omega), (by omega)⟩ (by unfold zfu; omega)
  intro rec10_ x2 s10_ hI5 ih10_
  obtain ⟨hS6, i7, i8⟩ := hI5
  unfold B_X0_takeOver_10
  refine zk_ite (fun h9 => ?_) (fun h9 => ?_)
  · have g10 := zle h9
    have f11 : 0 ≤ (s10_ q0 3).toInt ∧ (s10_ q0 3).toInt ≤ 9 := IXf hS6 hq0 3
    refine zk_let (fun σ74 q13 => ?_)
    have f14 : 0 ≤ (s10_ q1 4).toInt ∧ (s10_ q1 4).toInt ≤ 14 := IXf hS6 hq1 4
    have hS12 : IX σ74 := by rw [q13]; exact IX.up hS6 hq0 (xconT (zTs (s10_ q1 4)) ⟨by omega, by omega⟩)
    have e15 := zt_0
    unfold L_X0_takeOver_49
    refine zl_I (fun (x2 : Int32) (s49_ : zg_S) => IX s49_ ∧ 0 ≤ x2.toInt ∧ x2.toInt ≤ 3) (fun (x2 : Int32) (s49_ : zg_S) => (3 - x2.toInt).toNat) ?_ zfu 0 σ74 ⟨hS12, (by omega), (by omega)⟩ (by unfold zfu; omega)
    intro rec49_ x2 s49_ hI16 ih49_
    obtain ⟨hS17, i18, i19⟩ := hI16
    unfold B_X0_takeOver_49
    refine zk_ite (fun h20 => ?_) (fun h20 => ?_)
    · have g21 := zle h20
      have e22 := zt_3
      refine zk_let (fun σ3 q24 => ?_)
      have hS23 : IX σ3 := by rw [q24]; exact IX.up hS17 hq0 trivial
      refine zk_let (fun σ9 q26 => ?_)
      have hS25 : IX σ9 := by rw [q26]; exact IX.up hS23 hq0 trivial
      refine zk_let (fun σ15 q28 => ?_)
      have hS27 : IX σ15 := by rw [q28]; exact IX.up hS25 hq0 trivial
      refine zk_let (fun σ21 q30 => ?_)
      have hS29 : IX σ21 := by rw [q30]; exact IX.up hS27 hq0 trivial
      refine zk_let (fun σ27 q32 => ?_)
      have hS31 : IX σ27 := by rw [q32]; exact IX.up hS29 hq0 trivial
      refine zk_let (fun σ33 q34 => ?_)
      have hS33 : IX σ33 := by rw [q34]; exact IX.up hS31 hq0 trivial
      refine zk_let (fun σ39 q36 => ?_)
      have hS35 : IX σ39 := by rw [q36]; exact IX.up hS33 hq0 trivial
      refine zk_let (fun σ45 q38 => ?_)
      have hS37 : IX σ45 := by rw [q38]; exact IX.up hS35 hq0 trivial
      refine zk_let (fun σ51 q40 => ?_)
      have hS39 : IX σ51 := by rw [q40]; exact IX.up hS37 hq0 trivial
      exact zk_some hS39
    · have g41 := znle h20
      have e42 := zt_3
      have z43 : zin x2 3 = true := zin_mkT (zTs x2) (by omega) (by omega)
      refine zk_in z43 ?_
      refine zk_let (fun y61 ey44 => ?_)
      refine zk_let (fun σ64 q46 => ?_)
      have hS45 : IX σ64 := by rw [q46]; exact IX.up hS17 (xB2 hq0) trivial
      exact ih49_ (x2 + 1) σ64 ⟨hS45, (by rw [zTe (zTadd (zTs x2) (zTl zt_1) (by omega) (by omega))]; omega), (by rw [zTe (zTadd (zTs x2) (zTl zt_1) (by omega) (by omega))]; omega)⟩ (by show (3 - (x2 + 1).toInt).toNat < (3 - x2.toInt).toNat; rw [zTe (zTadd (zTs x2) (zTl zt_1) (by omega) (by omega))]; omega)
  · have g47 := znle h9
    have f48 : 0 ≤ (s10_ q0 3).toInt ∧ (s10_ q0 3).toInt ≤ 9 := IXf hS6 hq0 3
    have z49 : zin x2 9 = true := zin_mkT (zTs x2) (by omega) (by omega)
    refine zk_in z49 ?_
    refine zk_call (s_X4_takeOver ((q0 + 1) + 2 + (Int32.toNatClampNeg x2)) ((q1 + 1) + 2 + (Int32.toNatClampNeg x2)) s10_ hS6 (xS (xB1 hq0) (zIn z49).2) (xS (xB1 hq1) (zIn z49).2)) (fun r86 σ87 hp50 => ?_)
    have hS51 := hp50
    exact ih10_ (x2 + 1) σ87 ⟨hS51, (by rw [zTe (zTadd (zTs x2) (zTl zt_1) (by omega) (by omega))]; omega), (by rw [zTe (zTadd (zTs x2) (zTl zt_1) (by omega) (by omega))]; omega)⟩ (by show (9 - (x2 + 1).toInt).toNat < (9 - x2.toInt).toNat; rw [zTe (zTadd (zTs x2) (zTl zt_1) (by omega) (by omega))]; omega)

set_option maxHeartbeats 400000 in
theorem s_X0_widen (q0 : Nat) (a1 : Int32) (σ : zg_S) (hσ : IX σ) (hq0 : XL.2.1 q0 = 0) : zk (f_X0_widen q0 a1 σ) (fun r s => IX s) := by
  unfold f_X0_widen
  refine zk_let (fun σ1 q2 => ?_)
  have hS1 : IX σ1 := by rw [q2]; exact IX.up hσ hq0 trivial
  refine zk_call (s_X0_lastFirst q0 σ1 hS1 hq0) (fun r7 σ8 hp3 => ?_)
  subst hp3
  have e4 := zt_0
  refine zk_call (s_X6_held (σ1 q0 6) 0 r7 σ1 hS1 ) (fun r14 σ15 hp5 => ?_)
  obtain ⟨rfl, x6⟩ := hp5
  refine zk_let (fun σ21 q8 => ?_)
  have hS7 : IX σ21 := by rw [q8]; exact IX.up hS1 hq0 trivial
  exact zk_some hS7

set_option maxHeartbeats 400000 in
theorem s_X1_sortAt (a1 : Int32) (σ : zg_S) (hσ : IX σ)  : zk (f_X1_sortAt a1 σ) (fun r s => σ = s ∧ (r = 0 ∨ (0 ≤ a1.toInt ∧ a1.toInt < (σ 7 2).toInt))) := by
  unfold f_X1_sortAt
  refine zk_ite (fun h1 => ?_) (fun h1 => ?_)
  · have g2 := zlt h1
    have e3 := zt_0
    exact zk_some ⟨rfl, (by first | exact Or.inl rfl | exact Or.inr rfl | assumption | omega | exact Or.inr ⟨rfl, by omega, by omega⟩ | exact Or.inr ⟨by omega, by omega⟩)⟩
  · have g4 := znlt h1
    have e5 := zt_0
    refine zk_ite (fun h6 => ?_) (fun h6 => ?_)
    · have g7 := zlt h6
      have f8 : 0 ≤ (σ 7 2).toInt ∧ (σ 7 2).toInt ≤ 96 := IXf hσ xk_7 2
      have z9 : zin a1 96 = true := zin_mkT (zTs a1) (by omega) (by omega)
      refine zk_in z9 ?_
      refine zk_ite (fun h10 => ?_) (fun h10 => ?_)
      · have g11 := zlt h10
        have e12 := zt_97
        unfold B_X1_sortAt_35
        refine zk_ite (fun h13 => ?_) (fun h13 => ?_)
        · have g14 := zlt h13
          have e15 := zt_48
          have e16 := zt_3
          exact zk_some ⟨rfl, (by first | exact Or.inl rfl | exact Or.inr rfl | assumption | omega | exact Or.inr ⟨rfl, by omega, by omega⟩ | exact Or.inr ⟨by omega, by omega⟩)⟩
        · have g17 := znlt h13
          have e18 := zt_48
          refine zk_ite (fun h19 => ?_) (fun h19 => ?_)
          · have g20 := zlt h19
            have e21 := zt_57
            have e22 := zt_3
            exact zk_some ⟨rfl, (by first | exact Or.inl rfl | exact Or.inr rfl | assumption | omega | exact Or.inr ⟨rfl, by omega, by omega⟩ | exact Or.inr ⟨by omega, by omega⟩)⟩
          · have g23 := znlt h19
            have e24 := zt_57
            have e25 := zt_2
            exact zk_some ⟨rfl, (by first | exact Or.inl rfl | exact Or.inr rfl | assumption | omega | exact Or.inr ⟨rfl, by omega, by omega⟩ | exact Or.inr ⟨by omega, by omega⟩)⟩
      · have g26 := znlt h10
        have e27 := zt_97
        refine zk_ite (fun h28 => ?_) (fun h28 => ?_)
        · have g29 := zlt h28
          have e30 := zt_122
          unfold B_X1_sortAt_35
          refine zk_ite (fun h31 => ?_) (fun h31 => ?_)
          · have g32 := zlt h31
            have e33 := zt_48
            have e34 := zt_3
            exact zk_some ⟨rfl, (by first | exact Or.inl rfl | exact Or.inr rfl | assumption | omega | exact Or.inr ⟨rfl, by omega, by omega⟩ | exact Or.inr ⟨by omega, by omega⟩)⟩
          · have g35 := znlt h31
            have e36 := zt_48
            refine zk_ite (fun h37 => ?_) (fun h37 => ?_)
            · have g38 := zlt h37
              have e39 := zt_57
              have e40 := zt_3
              exact zk_some ⟨rfl, (by first | exact Or.inl rfl | exact Or.inr rfl | assumption | omega | exact Or.inr ⟨rfl, by omega, by omega⟩ | exact Or.inr ⟨by omega, by omega⟩)⟩
            · have g41 := znlt h37
              have e42 := zt_57
              have e43 := zt_2
              exact zk_some ⟨rfl, (by first | exact Or.inl rfl | exact Or.inr rfl | assumption | omega | exact Or.inr ⟨rfl, by omega, by omega⟩ | exact Or.inr ⟨by omega, by omega⟩)⟩
        · have g44 := znlt h28
          have e45 := zt_122
          have e46 := zt_1
          exact zk_some ⟨rfl, (by first | exact Or.inl rfl | exact Or.inr rfl | assumption | omega | exact Or.inr ⟨rfl, by omega, by omega⟩ | exact Or.inr ⟨by omega, by omega⟩)⟩
    · have g47 := znlt h6
      have f48 : 0 ≤ (σ 7 2).toInt ∧ (σ 7 2).toInt ≤ 96 := IXf hσ xk_7 2
      exact zk_some ⟨rfl, (by first | exact Or.inl rfl | exact Or.inr rfl | assumption | omega | exact Or.inr ⟨rfl, by omega, by omega⟩ | exact Or.inr ⟨by omega, by omega⟩)⟩

def adQ (σ : zg_S) (_ : Int32) (s : zg_S) : Prop := IX s ∧ s 7 6 = σ 7 6 ∧ s 7 7 = σ 7 7
theorem ad221 (σ : zg_S) (h : IX σ) : zk (B_X1_advance_221 σ) (adQ σ) := by
  unfold B_X1_advance_221
  refine zk_let (fun s q => zk_some ⟨?_, ?_, ?_⟩)
  · rw [q]; exact IX.up h xk_7 trivial
  · rw [q]; exact zkeepf rfl
  · rw [q]; exact zkeepf rfl
theorem ad210 (x3 y0 : Int32) (σ : zg_S) (h : IX σ) : zk (B_X1_advance_210 x3 y0 σ) (adQ σ) := by
  unfold B_X1_advance_210
  exact zk_ite (fun _ => zk_ite (fun _ => zk_some ⟨h, rfl, rfl⟩) (fun _ => ad221 σ h)) (fun _ => ad221 σ h)
theorem ad209 (x3 : Int32) (σ : zg_S) (h : IX σ) : zk (B_X1_advance_209 x3 σ) (adQ σ) := by
  unfold B_X1_advance_209
  exact ad210 x3 0 σ h
theorem ad183 (y0 : Int32) (σ : zg_S) (h : IX σ) : zk (B_X1_advance_183 y0 σ) (adQ σ) := by
  unfold B_X1_advance_183
  exact zk_ite (fun _ => zk_ite (fun _ => ad209 y0 σ h) (fun _ => ad210 y0 1 σ h)) (fun _ => ad209 y0 σ h)
theorem ad182 (σ : zg_S) (h : IX σ) : zk (B_X1_advance_182 σ) (adQ σ) := by
  unfold B_X1_advance_182
  exact ad183 0 σ h
theorem ad158 (x1 x2 : Int32) (σ : zg_S) (h : IX σ) : zk (B_X1_advance_158 x1 x2 σ) (adQ σ) := by
  unfold B_X1_advance_158
  exact zk_ite (fun _ => ad182 σ h) (fun _ => zk_ite (fun _ => ad182 σ h) (fun _ => zk_ite (fun _ => ad183 1 σ h) (fun _ => ad182 σ h)))
theorem ad111 (x1 x2 : Int32) (σ : zg_S) (h : IX σ) : zk (L_X1_advance_111 zfu x1 x2 σ) (adQ σ) := by
  have f0 : 0 ≤ (σ 7 5).toInt ∧ (σ 7 5).toInt ≤ 96 := IXf h xk_7 5
  unfold L_X1_advance_111
  refine zl_II (fun _ _ s => adQ σ 0 s) (fun _ _ s => (97 - (s 7 5).toInt).toNat) ?_ zfu _ _ _ ⟨h, rfl, rfl⟩ (by unfold zfu; omega)
  intro rec y1 y2 s hI ih
  obtain ⟨hs, k6, k7⟩ := hI
  have f5 : 0 ≤ (s 7 5).toInt ∧ (s 7 5).toInt ≤ 96 := IXf hs xk_7 5
  have f2 : 0 ≤ (s 7 2).toInt ∧ (s 7 2).toInt ≤ 96 := IXf hs xk_7 2
  unfold B_X1_advance_111
  have ex : zk (B_X1_advance_158 y1 y2 s) (adQ σ) := zk_mono (ad158 y1 y2 s hs) (fun r t ht => ⟨ht.1, ht.2.1.trans k6, ht.2.2.trans k7⟩)
  refine zk_ite (fun _ => ex) (fun _ => zk_ite (fun _ => ex) (fun hl => ?_))
  have g := znle hl
  refine zk_call (s_X1_sortAt (s 7 5) s hs) (fun r t hp => ?_)
  obtain ⟨rfl, _⟩ := hp
  refine zk_ite (fun _ => ?_) (fun _ => ex)
  refine zk_let (fun t q => ?_)
  have e1 := zt_1
  have ea := zadd (s 7 5) 1 (by omega) (by omega)
  have t5 : t 7 5 = s 7 5 + 1 := by rw [q]; exact zgot
  refine ih y1 y2 t ⟨by rw [q]; exact IX.up hs xk_7 ⟨by omega, by omega⟩, by rw [q]; exact (zkeepf rfl).trans k6, by rw [q]; exact (zkeepf rfl).trans k7⟩ (by show (97 - (t 7 5).toInt).toNat < (97 - (s 7 5).toInt).toNat; rw [t5, ea]; omega)
theorem ad73 (x1 x2 : Int32) (σ : zg_S) (h : IX σ) : zk (B_X1_advance_73 x1 x2 σ) (adQ σ) := by
  have f4 : 0 ≤ (σ 7 4).toInt ∧ (σ 7 4).toInt ≤ 96 := IXf h xk_7 4
  unfold B_X1_advance_73
  refine zk_let (fun s1 q1 => ?_)
  have h1 : IX s1 := by rw [q1]; exact IX.up h xk_7 f4
  have a6 : s1 7 6 = σ 7 6 := by rw [q1]; exact zkeepf rfl
  have a7 : s1 7 7 = σ 7 7 := by rw [q1]; exact zkeepf rfl
  have a4 : s1 7 4 = σ 7 4 := by rw [q1]; exact zkeepf rfl
  have a5 : s1 7 5 = σ 7 4 := by rw [q1]; exact zgot
  have f2 : 0 ≤ (s1 7 2).toInt ∧ (s1 7 2).toInt ≤ 96 := IXf h1 xk_7 2
  refine zk_call (s_X1_sortAt (s1 7 4) s1 h1) (fun r t hp => ?_)
  obtain ⟨rfl, hr⟩ := hp
  refine zk_let (fun s2 q2 => ?_)
  have h2 : IX s2 := by rw [q2]; exact IX.up h1 xk_7 trivial
  have b6 : s2 7 6 = σ 7 6 := by rw [q2]; exact (zkeepf rfl).trans a6
  have b7 : s2 7 7 = σ 7 7 := by rw [q2]; exact (zkeepf rfl).trans a7
  have b5 : s2 7 5 = s1 7 4 := by rw [q2]; exact (zkeepf rfl).trans (a5.trans a4.symm)
  have b3 : s2 7 3 = r := by rw [q2]; exact zgot
  refine zk_ite (fun _ => zk_some ⟨h2, b6, b7⟩) (fun hn => ?_)
  rw [b3] at hn
  have hr := hr.resolve_left hn
  refine zk_let (fun s3 q3 => ?_)
  have e1 := zt_1
  have g5 := congrArg Int32.toInt b5
  have ea := zadd (s2 7 5) 1 (by omega) (by omega)
  have h3 : IX s3 := by rw [q3]; exact IX.up h2 xk_7 ⟨by omega, by omega⟩
  have c6 : s3 7 6 = σ 7 6 := by rw [q3]; exact (zkeepf rfl).trans b6
  have c7 : s3 7 7 = σ 7 7 := by rw [q3]; exact (zkeepf rfl).trans b7
  exact zk_mono (ad111 x1 x2 s3 h3) (fun r t ht => ⟨ht.1, ht.2.1.trans c6, ht.2.2.trans c7⟩)
theorem ad35 (x1 x2 : Int32) (σ : zg_S) (h : IX σ) : zk (L_X1_advance_35 zfu x1 x2 σ) (adQ σ) := by
  have f0 : 0 ≤ (σ 7 4).toInt ∧ (σ 7 4).toInt ≤ 96 := IXf h xk_7 4
  unfold L_X1_advance_35
  refine zl_II (fun _ _ s => adQ σ 0 s) (fun _ _ s => (97 - (s 7 4).toInt).toNat) ?_ zfu _ _ _ ⟨h, rfl, rfl⟩ (by unfold zfu; omega)
  intro rec y1 y2 s hI ih
  obtain ⟨hs, k6, k7⟩ := hI
  have f4 : 0 ≤ (s 7 4).toInt ∧ (s 7 4).toInt ≤ 96 := IXf hs xk_7 4
  have f2 : 0 ≤ (s 7 2).toInt ∧ (s 7 2).toInt ≤ 96 := IXf hs xk_7 2
  unfold B_X1_advance_35
  have ex : zk (B_X1_advance_73 y1 y2 s) (adQ σ) := zk_mono (ad73 y1 y2 s hs) (fun r t ht => ⟨ht.1, ht.2.1.trans k6, ht.2.2.trans k7⟩)
  refine zk_ite (fun _ => ex) (fun hl => ?_)
  have g := znle hl
  refine zk_in (zin_mk (by omega) (by omega)) ?_
  refine zk_ite (fun _ => ?_) (fun _ => ex)
  refine zk_let (fun t q => ?_)
  have e1 := zt_1
  have ea := zadd (s 7 4) 1 (by omega) (by omega)
  have t4 : t 7 4 = s 7 4 + 1 := by rw [q]; exact zgot
  refine ih y1 y2 t ⟨by rw [q]; exact IX.up hs xk_7 ⟨by omega, by omega⟩, by rw [q]; exact (zkeepf rfl).trans k6, by rw [q]; exact (zkeepf rfl).trans k7⟩ (by show (97 - (t 7 4).toInt).toNat < (97 - (s 7 4).toInt).toNat; rw [t4, ea]; omega)
theorem ad21 (y0 : Int32) (σ : zg_S) (h : IX σ) : zk (B_X1_advance_21 y0 σ) (adQ σ) := by
  have f5 : 0 ≤ (σ 7 5).toInt ∧ (σ 7 5).toInt ≤ 96 := IXf h xk_7 5
  unfold B_X1_advance_21
  refine zk_let (fun s1 q1 => ?_)
  have h1 : IX s1 := by rw [q1]; exact IX.up h xk_7 f5
  have a6 : s1 7 6 = σ 7 6 := by rw [q1]; exact zkeepf rfl
  have a7 : s1 7 7 = σ 7 7 := by rw [q1]; exact zkeepf rfl
  exact zk_mono (ad35 y0 (σ 7 5) s1 h1) (fun r t ht => ⟨ht.1, ht.2.1.trans a6, ht.2.2.trans a7⟩)
theorem s_X1_advance (σ : zg_S) (hσ : IX σ) : zk (f_X1_advance σ) (fun r s => IX s ∧ s 7 6 = σ 7 6 ∧ s 7 7 = σ 7 7) := by
  unfold f_X1_advance B_X1_advance_16
  exact zk_ite (fun _ => ad21 1 σ hσ) (fun _ => zk_ite (fun _ => ad21 1 σ hσ) (fun _ => ad21 0 σ hσ))
end
section
theorem s_X1_isWord (q1 : Nat) (σ : zg_S) (hσ : IX σ) (hq1 : q1 < 6) : zk (f_X1_isWord q1 σ) (fun r s => σ = s ∧ (r = 0 ∨ r = 1)) := by
  unfold f_X1_isWord
  have e0 := zt_0
  have e1 := zt_1
  refine zk_ite (fun _ => ?_) (fun _ => zk_some ⟨rfl, Or.inl rfl⟩)
  refine zk_call (s_J0_length_8abf5 q1 σ hσ hq1) (fun r s hp => ?_)
  obtain ⟨rfl, hr, h4⟩ := hp
  refine zk_ite (fun _ => ?_) (fun _ => zk_some ⟨rfl, Or.inl rfl⟩)
  unfold L_X1_isWord_28
  refine zl_I (fun x s => σ = s ∧ 0 ≤ x.toInt ∧ x.toInt ≤ 4) (fun x s => (4 - x.toInt).toNat) ?_ zfu _ _ ⟨rfl, by omega, by omega⟩ (by unfold zfu; omega)
  intro rec x s hI ih
  obtain ⟨rfl, i1, i2⟩ := hI
  unfold B_X1_isWord_28
  refine zk_call (s_J0_length_8abf5 q1 σ hσ hq1) (fun r1 s hp => ?_)
  obtain ⟨rfl, hr1, _⟩ := hp
  refine zk_ite (fun _ => zk_some ⟨rfl, Or.inr rfl⟩) (fun hl => ?_)
  have gl := znle hl
  refine zk_call (s_X1_sortAt ((σ 7 4) + x) σ hσ) (fun r2 s hp => ?_)
  obtain ⟨rfl, hs⟩ := hp
  refine zk_ite (fun h1 => ?_) (fun _ => zk_some ⟨rfl, Or.inl rfl⟩)
  have hn : ¬ r2 = 0 := fun z => by rw [z] at h1; exact absurd h1 (by decide)
  have hs := hs.resolve_left hn
  have f2 : 0 ≤ (σ 7 2).toInt ∧ (σ 7 2).toInt ≤ 96 := IXf hσ xk_7 2
  refine zk_in (zin_mk hs.1 (by omega)) ?_
  refine zk_call (s_J0_charAt_5068e q1 x σ hσ hq1 i1 (by omega)) (fun r3 s hp => ?_)
  subst hp
  refine zk_ite (fun _ => ?_) (fun _ => zk_some ⟨rfl, Or.inl rfl⟩)
  have ex := zTe (zTadd (zTs x) (zTl zt_1) (by omega) (by omega))
  exact ih (x + 1) σ ⟨rfl, by rw [ex]; omega, by rw [ex]; omega⟩ (by show (4 - (x + 1).toInt).toNat < (4 - x.toInt).toNat; rw [ex]; omega)

set_option maxHeartbeats 400000 in
theorem s_X1_keyHere  (σ : zg_S) (hσ : IX σ)  : zk (f_X1_keyHere  σ) (fun r s => σ = s) := by
  unfold f_X1_keyHere
  have e1 := zt_0
  refine zk_call (s_X1_isWord 0 σ hσ (by decide)) (fun r1 σ2 hp2 => ?_)
  obtain ⟨rfl, x3⟩ := hp2
  refine zk_ite (fun h4 => ?_) (fun h4 => ?_)
  · have g5 := zeq h4
    have e6 := zt_1
    refine zk_call (s_X1_isWord 1 σ hσ (by decide)) (fun r10 σ11 hp7 => ?_)
    obtain ⟨rfl, x8⟩ := hp7
    refine zk_ite (fun h9 => ?_) (fun h9 => ?_)
    · have g10 := zeq h9
      have e11 := zt_2
      refine zk_call (s_X1_isWord 2 σ hσ (by decide)) (fun r19 σ20 hp12 => ?_)
      obtain ⟨rfl, x13⟩ := hp12
      refine zk_ite (fun h14 => ?_) (fun h14 => ?_)
      · have g15 := zeq h14
        exact zk_some rfl
      · have g16 := zne h14
        exact zk_some rfl
    · have g17 := zne h9
      exact zk_some rfl
  · have g18 := zne h4
    exact zk_some rfl

set_option maxHeartbeats 400000 in
theorem s_X1_levelOf (a0 : Int32) (σ : zg_S) (hσ : IX σ)  : zk (f_X1_levelOf a0 σ) (fun r s => σ = s) := by
  unfold f_X1_levelOf
  refine zk_ite (fun h1 => ?_) (fun h1 => ?_)
  · have g2 := zeq h1
    have e3 := zt_38
    exact zk_some rfl
  · have g4 := zne h1
    have e5 := zt_38
    refine zk_ite (fun h6 => ?_) (fun h6 => ?_)
    · have g7 := zeq h6
      have e8 := zt_42
      exact zk_some rfl
    · have g9 := zne h6
      have e10 := zt_42
      refine zk_ite (fun h11 => ?_) (fun h11 => ?_)
      · have g12 := zeq h11
        have e13 := zt_43
        exact zk_some rfl
      · have g14 := zne h11
        have e15 := zt_43
        refine zk_ite (fun h16 => ?_) (fun h16 => ?_)
        · have g17 := zeq h16
          have e18 := zt_45
          exact zk_some rfl
        · have g19 := zne h16
          have e20 := zt_45
          refine zk_ite (fun h21 => ?_) (fun h21 => ?_)
          · have g22 := zeq h21
            have e23 := zt_47
            exact zk_some rfl
          · have g24 := zne h21
            have e25 := zt_47
            refine zk_ite (fun h26 => ?_) (fun h26 => ?_)
            · have g27 := zeq h26
              have e28 := zt_60
              exact zk_some rfl
            · have g29 := zne h26
              have e30 := zt_60
              refine zk_ite (fun h31 => ?_) (fun h31 => ?_)
              · have g32 := zeq h31
                have e33 := zt_61
                exact zk_some rfl
              · have g34 := zne h31
                have e35 := zt_61
                refine zk_ite (fun h36 => ?_) (fun h36 => ?_)
                · have g37 := zeq h36
                  have e38 := zt_62
                  exact zk_some rfl
                · have g39 := zne h36
                  have e40 := zt_62
                  refine zk_ite (fun h41 => ?_) (fun h41 => ?_)
                  · have g42 := zeq h41
                    have e43 := zt_124
                    exact zk_some rfl
                  · have g44 := zne h41
                    have e45 := zt_124
                    exact zk_some rfl

set_option maxHeartbeats 400000 in
theorem s_X5_addStep (q0 : Nat) (a1 : Int32) (σ : zg_S) (hσ : IX σ) (hq0 : XL.2.1 q0 = 5) : zk (f_X5_addStep q0 a1 σ) (fun r s => IX s ∧ s 7 6 = σ 7 6 ∧ s 7 7 = σ 7 7) := by
  unfold f_X5_addStep
  refine zk_ite (fun h1 => ?_) (fun h1 => ?_)
  · have g2 := zle h1
    have e3 := zt_96
    have f4 : 0 ≤ (σ q0 2).toInt ∧ (σ q0 2).toInt ≤ 96 := IXf hσ hq0 2
    have e5 := zt_0
    exact zk_some ⟨hσ, rfl, rfl⟩
  · have g6 := znle h1
    have e7 := zt_96
    have f8 : 0 ≤ (σ q0 2).toInt ∧ (σ q0 2).toInt ≤ 96 := IXf hσ hq0 2
    have z9 : zin (σ q0 2) 96 = true := zin_mkT (zTs (σ q0 2)) (by omega) (by omega)
    refine zk_in z9 ?_
    refine zk_let (fun σ7 q11 => ?_)
    have hS10 : IX σ7 := by rw [q11]; exact IX.up hσ (xT1 hq0) trivial
    have kp12 : σ7 7 6 = σ 7 6 := by rw [q11]; exact zkeep (xT1 hq0) xk_7 rfl
    have kp13 : σ7 7 7 = σ 7 7 := by rw [q11]; exact zkeep (xT1 hq0) xk_7 rfl
    have kp14 : σ7 q0 2 = σ q0 2 := by rw [q11]; exact zkeep (xT1 hq0) hq0 rfl
    refine zk_let (fun σ13 q16 => ?_)
    have g17 := congrArg Int32.toInt (kp14.trans rfl)
    have f18 : 0 ≤ (σ7 q0 2).toInt ∧ (σ7 q0 2).toInt ≤ 96 := IXf hS10 hq0 2
    have hS15 : IX σ13 := by rw [q16]; exact IX.up hS10 hq0 (xconT (zTadd (zTs (σ7 q0 2)) (zTl zt_1) (by omega) (by omega)) ⟨by omega, by omega⟩)
    have kp19 : σ13 7 6 = σ7 7 6 := by rw [q16]; exact zkeep hq0 xk_7 rfl
    have kp20 : σ13 7 7 = σ7 7 7 := by rw [q16]; exact zkeep hq0 xk_7 rfl
    have e21 := zt_0
    exact zk_some ⟨hS15, (kp19.trans (kp12.trans rfl)), (kp20.trans (kp13.trans rfl))⟩

set_option maxHeartbeats 400000 in
theorem s_X5_addLeaf (q0 : Nat) (a1 : Int32) (σ : zg_S) (hσ : IX σ) (hq0 : XL.2.1 q0 = 5) : zk (f_X5_addLeaf q0 a1 σ) (fun r s => IX s ∧ s 7 6 = σ 7 6 ∧ s 7 7 = σ 7 7) := by
  unfold f_X5_addLeaf
  refine zk_let (fun σ1 q2 => ?_)
  have hS1 : IX σ1 := by rw [q2]; exact IX.up hσ hq0 trivial
  have kp3 : σ1 7 6 = σ 7 6 := by rw [q2]; exact zkeep hq0 xk_7 rfl
  have kp4 : σ1 7 7 = σ 7 7 := by rw [q2]; exact zkeep hq0 xk_7 rfl
  refine zk_call (s_X5_addStep q0 a1 σ1 hS1 hq0) (fun r7 σ8 hp5 => ?_)
  obtain ⟨hS8, x6, x7⟩ := hp5
  have e9 := zt_0
  exact zk_some ⟨hS8, (x6.trans (kp3.trans rfl)), (x7.trans (kp4.trans rfl))⟩

set_option maxHeartbeats 400000 in
theorem s_X1_readNumber  (σ : zg_S) (hσ : IX σ)  : zk (f_X1_readNumber  σ) (fun r s => IX s ∧ (r = 0 ∨ r = 1) ∧ s 7 6 = σ 7 6 ∧ s 7 7 = σ 7 7) := by
  unfold f_X1_readNumber
  have f1 : 0 ≤ (σ 7 4).toInt ∧ (σ 7 4).toInt ≤ 96 := IXf hσ xk_7 4
  unfold L_X1_readNumber_7
  refine zl_II (fun (x1 : Int32) (x2 : Int32) (s7_ : zg_S) => IX s7_ ∧ s7_ 7 6 = σ 7 6 ∧ s7_ 7 7 = σ 7 7 ∧ 0 ≤ x2.toInt ∧ x2.toInt ≤ 96) (fun (x1 : Int32) (x2 : Int32) (s7_ : zg_S) => (96 - x2.toInt).toNat) ?_ zfu 0 (σ 7 4) σ ⟨hσ, rfl, rfl, (by omega), (by omega)⟩ (by unfold zfu; omega)
  intro rec7_ x1 x2 s7_ hI2 ih7_
  obtain ⟨hS3, he4, he5, i6, i7⟩ := hI2
  unfold B_X1_readNumber_7
  refine zk_ite (fun h8 => ?_) (fun h8 => ?_)
  · have g9 := zle h8
    have f10 : 0 ≤ (s7_ 7 5).toInt ∧ (s7_ 7 5).toInt ≤ 96 := IXf hS3 xk_7 5
    unfold B_X1_readNumber_44
    have e11 := zt_8
    refine zk_call (s_X5_addLeaf 8 x1 s7_ hS3 xk_8) (fun r1 σ2 hp12 => ?_)
    obtain ⟨hS15, x13, x14⟩ := hp12
    refine zk_call (s_X1_advance σ2 hS15 ) (fun r8 σ9 hp16 => ?_)
    obtain ⟨hS19, x17, x18⟩ := hp16
    have e20 := zt_1
    exact zk_some ⟨hS19, (by first | exact Or.inl rfl | exact Or.inr rfl | assumption | omega | exact Or.inr ⟨rfl, by omega, by omega⟩ | exact Or.inr ⟨by omega, by omega⟩), (x17.trans (x13.trans he4)), (x18.trans (x14.trans he5))⟩
  · have g21 := znle h8
    have f22 : 0 ≤ (s7_ 7 5).toInt ∧ (s7_ 7 5).toInt ≤ 96 := IXf hS3 xk_7 5
    refine zk_ite (fun h23 => ?_) (fun h23 => ?_)
    · have g24 := zle h23
      have f25 : 0 ≤ (s7_ 7 2).toInt ∧ (s7_ 7 2).toInt ≤ 96 := IXf hS3 xk_7 2
      unfold B_X1_readNumber_44
      have e26 := zt_8
      refine zk_call (s_X5_addLeaf 8 x1 s7_ hS3 xk_8) (fun r1 σ2 hp27 => ?_)
      obtain ⟨hS30, x28, x29⟩ := hp27
      refine zk_call (s_X1_advance σ2 hS30 ) (fun r8 σ9 hp31 => ?_)
      obtain ⟨hS34, x32, x33⟩ := hp31
      have e35 := zt_1
      exact zk_some ⟨hS34, (by first | exact Or.inl rfl | exact Or.inr rfl | assumption | omega | exact Or.inr ⟨rfl, by omega, by omega⟩ | exact Or.inr ⟨by omega, by omega⟩), (x32.trans (x28.trans he4)), (x33.trans (x29.trans he5))⟩
    · have g36 := znle h23
      have f37 : 0 ≤ (s7_ 7 2).toInt ∧ (s7_ 7 2).toInt ≤ 96 := IXf hS3 xk_7 2
      have z38 : zin x2 96 = true := zin_mkT (zTs x2) (by omega) (by omega)
      refine zk_in z38 ?_
      refine zk_let (fun y24 ey39 => ?_)
      exact ih7_ y24 (x2 + 1) s7_ ⟨hS3, he4, he5, (by rw [zTe (zTadd (zTs x2) (zTl zt_1) (by omega) (by omega))]; omega), (by rw [zTe (zTadd (zTs x2) (zTl zt_1) (by omega) (by omega))]; omega)⟩ (by show (96 - (x2 + 1).toInt).toNat < (96 - x2.toInt).toNat; rw [zTe (zTadd (zTs x2) (zTl zt_1) (by omega) (by omega))]; omega)

set_option maxHeartbeats 400000 in
theorem s_X1_readName  (σ : zg_S) (hσ : IX σ)  : zk (f_X1_readName  σ) (fun r s => IX s ∧ (r = 0 ∨ r = 1) ∧ s 7 6 = σ 7 6 ∧ s 7 7 = σ 7 7) := by
  unfold f_X1_readName
  refine zk_ite (fun h1 => ?_) (fun h1 => ?_)
  · have g2 := zeq h1
    have f3 : 0 ≤ (σ 7 5).toInt ∧ (σ 7 5).toInt ≤ 96 := IXf hσ xk_7 5
    have f4 : 0 ≤ (σ 7 4).toInt ∧ (σ 7 4).toInt ≤ 96 := IXf hσ xk_7 4
    have e5 := zt_1
    refine zk_ite (fun h6 => ?_) (fun h6 => ?_)
    · have g7 := zle h6
      have f8 : 0 ≤ (σ 7 2).toInt ∧ (σ 7 2).toInt ≤ 96 := IXf hσ xk_7 2
      unfold B_X1_readName_50
      unfold B_X1_readName_51
      refine zk_ite (fun h9 => ?_) (fun h9 => ?_)
      · have g10 := zle h9
        have e11 := zt_0
        have e12 := zt_m1
        have e13 := zt_8
        refine zk_call (s_X5_addLeaf 8 ((-1) - (-1)) σ hσ xk_8) (fun r5 σ6 hp14 => ?_)
        obtain ⟨hS17, x15, x16⟩ := hp14
        refine zk_call (s_X1_advance σ6 hS17 ) (fun r12 σ13 hp18 => ?_)
        obtain ⟨hS21, x19, x20⟩ := hp18
        exact zk_some ⟨hS21, (by first | exact Or.inl rfl | exact Or.inr rfl | assumption | omega | exact Or.inr ⟨rfl, by omega, by omega⟩ | exact Or.inr ⟨by omega, by omega⟩), (x19.trans (x15.trans rfl)), (x20.trans (x16.trans rfl))⟩
      · have g22 := znle h9
        have e23 := zt_0
        have e24 := zt_m1
        exact zk_some ⟨hσ, (by first | exact Or.inl rfl | exact Or.inr rfl | assumption | omega | exact Or.inr ⟨rfl, by omega, by omega⟩ | exact Or.inr ⟨by omega, by omega⟩), rfl, rfl⟩
    · have g25 := znle h6
      have f26 : 0 ≤ (σ 7 2).toInt ∧ (σ 7 2).toInt ≤ 96 := IXf hσ xk_7 2
      have z27 : zin (σ 7 4) 96 = true := zin_mkT (zTs (σ 7 4)) (by omega) (by omega)
      refine zk_in z27 ?_
      refine zk_call (s_J0_indexOf_0f7a4 (zg_nm (σ 8 0)) ((Int32.toUInt32 (σ 6 (Int32.toNatClampNeg (σ 7 4))) % 65536).toInt32) σ hσ (zg_nm_lt (σ 8 0))) (fun r32 σ33 hp28 => ?_)
      subst hp28
      unfold B_X1_readName_51
      refine zk_ite (fun h29 => ?_) (fun h29 => ?_)
      · have g30 := zle h29
        have e31 := zt_0
        have e32 := zt_8
        refine zk_call (s_X5_addLeaf 8 ((-1) - r32) σ hσ xk_8) (fun r5 σ6 hp33 => ?_)
        obtain ⟨hS36, x34, x35⟩ := hp33
        refine zk_call (s_X1_advance σ6 hS36 ) (fun r12 σ13 hp37 => ?_)
        obtain ⟨hS40, x38, x39⟩ := hp37
        exact zk_some ⟨hS40, (by first | exact Or.inl rfl | exact Or.inr rfl | assumption | omega | exact Or.inr ⟨rfl, by omega, by omega⟩ | exact Or.inr ⟨by omega, by omega⟩), (x38.trans (x34.trans rfl)), (x39.trans (x35.trans rfl))⟩
      · have g41 := znle h29
        have e42 := zt_0
        exact zk_some ⟨hσ, (by first | exact Or.inl rfl | exact Or.inr rfl | assumption | omega | exact Or.inr ⟨rfl, by omega, by omega⟩ | exact Or.inr ⟨by omega, by omega⟩), rfl, rfl⟩
  · have g43 := zne h1
    have f44 : 0 ≤ (σ 7 5).toInt ∧ (σ 7 5).toInt ≤ 96 := IXf hσ xk_7 5
    have f45 : 0 ≤ (σ 7 4).toInt ∧ (σ 7 4).toInt ≤ 96 := IXf hσ xk_7 4
    have e46 := zt_1
    unfold B_X1_readName_50
    unfold B_X1_readName_51
    refine zk_ite (fun h47 => ?_) (fun h47 => ?_)
    · have g48 := zle h47
      have e49 := zt_0
      have e50 := zt_m1
      have e51 := zt_8
      refine zk_call (s_X5_addLeaf 8 ((-1) - (-1)) σ hσ xk_8) (fun r5 σ6 hp52 => ?_)
      obtain ⟨hS55, x53, x54⟩ := hp52
      refine zk_call (s_X1_advance σ6 hS55 ) (fun r12 σ13 hp56 => ?_)
      obtain ⟨hS59, x57, x58⟩ := hp56
      exact zk_some ⟨hS59, (by first | exact Or.inl rfl | exact Or.inr rfl | assumption | omega | exact Or.inr ⟨rfl, by omega, by omega⟩ | exact Or.inr ⟨by omega, by omega⟩), (x57.trans (x53.trans rfl)), (x58.trans (x54.trans rfl))⟩
    · have g60 := znle h47
      have e61 := zt_0
      have e62 := zt_m1
      exact zk_some ⟨hσ, (by first | exact Or.inl rfl | exact Or.inr rfl | assumption | omega | exact Or.inr ⟨rfl, by omega, by omega⟩ | exact Or.inr ⟨by omega, by omega⟩), rfl, rfl⟩

set_option maxHeartbeats 400000 in
theorem s_X1_signHere  (σ : zg_S) (hσ : IX σ)  : zk (f_X1_signHere  σ) (fun r s => σ = s) := by
  unfold f_X1_signHere
  refine zk_ite (fun h1 => ?_) (fun h1 => ?_)
  · have g2 := zeq h1
    have e3 := zt_3
    have e4 := zt_0
    have e5 := zt_95
    refine zk_call (s_X6_within (σ 7 4) 0 95 σ hσ ) (fun r4 σ5 hp6 => ?_)
    obtain ⟨rfl, x7⟩ := hp6
    have f8 : 0 ≤ (σ 7 4).toInt ∧ (σ 7 4).toInt ≤ 96 := IXf hσ xk_7 4
    refine zk_ite (fun h12 => ?_) (fun h12 => ?_)
    · have g13 := zeq h12
      exact zk_some rfl
    · have g14 := zne h12
      obtain ⟨_d9, _d10, _d11⟩ := x7.resolve_left h12
      have z15 : zin (σ 7 4) 96 = true := zin_mkT (zTs (σ 7 4)) (by omega) (by omega)
      refine zk_in z15 ?_
      exact zk_some rfl
  · have g16 := zne h1
    have e17 := zt_3
    exact zk_some rfl
end
section
def rdN (σ : zg_S) : Int := 2 + 8 * (8 - (σ 7 6).toInt) + 2 * (8 - (σ 7 7).toInt)
def rdB (σ : zg_S) : Prop := 0 ≤ (σ 7 6).toInt ∧ (σ 7 6).toInt ≤ 8 ∧ 0 ≤ (σ 7 7).toInt ∧ (σ 7 7).toInt ≤ 8
def rdQ (σ : zg_S) (r : Int32) (s : zg_S) : Prop := IX s ∧ (r = 0 ∨ (r = 1 ∧ s 7 6 = σ 7 6 ∧ s 7 7 = σ 7 7))
theorem rdN_eq {σ s : zg_S} (h6 : s 7 6 = σ 7 6) (h7 : s 7 7 = σ 7 7) : rdN s = rdN σ := by unfold rdN; rw [h6, h7]
theorem rdB_eq {σ s : zg_S} (h6 : s 7 6 = σ 7 6) (h7 : s 7 7 = σ 7 7) (h : rdB σ) : rdB s := by unfold rdB; rw [h6, h7]; exact h
theorem s_G_rd : ∀ d : Nat, (∀ (z0 : Int32) (σ : zg_S), IX σ → rdB σ → 0 ≤ z0.toInt → z0.toInt ≤ 5 → (6 - z0.toInt) + rdN σ ≤ d → zk (G_rd d 0 z0 σ) (rdQ σ)) ∧ (∀ (z0 : Int32) (σ : zg_S), IX σ → rdB σ → rdN σ ≤ d → zk (G_rd d 1 z0 σ) (rdQ σ)) ∧ (∀ (z0 : Int32) (σ : zg_S), IX σ → rdB σ → rdN σ - 1 ≤ d → zk (G_rd d 2 z0 σ) (rdQ σ)) ∧ (∀ (z0 : Int32) (σ : zg_S), IX σ → rdB σ → rdN σ - 1 ≤ d → zk (G_rd d 3 z0 σ) (rdQ σ)) := by
  have e0 := zt_0
  have e1 := zt_1
  have e4 := zt_4
  have e8 := zt_8
  have e96 := zt_96
  intro d
  induction d with
  | zero =>
    refine ⟨fun z0 σ _ hB h0 h5 hd => ?_, fun z0 σ _ hB hd => ?_, fun z0 σ _ hB hd => ?_, fun z0 σ _ hB hd => ?_⟩ <;> (unfold rdN at hd; unfold rdB at hB; omega)
  | succ d ih =>
    obtain ⟨ih0, ih1, ih2, ih3⟩ := ih
    refine ⟨fun z0 σ hσ hB h0 h5 hd => ?_, fun z0 σ hσ hB hd => ?_, fun z0 σ hσ hB hd => ?_, fun z0 σ hσ hB hd => ?_⟩
    · show zk (f_X1_readLevel (G_rd d) z0 σ) _
      unfold f_X1_readLevel
      refine zk_ite (fun hl => ?_) (fun _ => ?_)
      · have g := zle hl
        have ea := zadd z0 1 (by omega) (by omega)
        refine zk_call (ih0 (z0 + 1) σ hσ hB (by omega) (by omega) (by omega)) (fun r s hp => ?_)
        obtain ⟨hs, hx⟩ := hp
        refine zk_ite (fun _ => zk_some ⟨hs, Or.inl rfl⟩) (fun hn => ?_)
        obtain ⟨-, k6, k7⟩ := hx.resolve_left hn
        unfold L_X1_readLevel_24
        refine zl_I (fun (x : Int32) (t : zg_S) => IX t ∧ t 7 6 = σ 7 6 ∧ t 7 7 = σ 7 7 ∧ 0 ≤ x.toInt ∧ x.toInt ≤ 96) (fun (x : Int32) (t : zg_S) => (96 - x.toInt).toNat) ?_ zfu _ _ ⟨hs, k6, k7, by omega, by omega⟩ (by unfold zfu; omega)
        intro rec x t hI ihl
        obtain ⟨ht, j6, j7, i1, i2⟩ := hI
        unfold B_X1_readLevel_24
        refine zk_ite (fun _ => zk_some ⟨ht, Or.inr ⟨rfl, j6, j7⟩⟩) (fun h9 => ?_)
        have g9 := znle h9
        refine zk_call (s_X1_signHere t ht) (fun r1 t1 hp => ?_)
        subst hp
        refine zk_call (s_X1_levelOf r1 t ht) (fun r2 t1 hp => ?_)
        subst hp
        refine zk_ite (fun _ => ?_) (fun _ => zk_some ⟨ht, Or.inr ⟨rfl, j6, j7⟩⟩)
        refine zk_call (s_X1_advance t ht) (fun r3 t3 hp => ?_)
        obtain ⟨h3, a6, a7⟩ := hp
        refine zk_call (ih0 (z0 + 1) t3 h3 (rdB_eq (a6.trans j6) (a7.trans j7) hB) (by omega) (by omega) (by rw [rdN_eq (a6.trans j6) (a7.trans j7)]; omega)) (fun r4 t4 hp => ?_)
        obtain ⟨h4, hx4⟩ := hp
        refine zk_ite (fun _ => zk_some ⟨h4, Or.inl rfl⟩) (fun hn4 => ?_)
        obtain ⟨-, b6, b7⟩ := hx4.resolve_left hn4
        refine zk_call (s_X5_addStep 8 _ t4 h4 xk_8) (fun r5 t5 hp => ?_)
        obtain ⟨h5', c6, c7⟩ := hp
        have m6 := c6.trans (b6.trans (a6.trans j6))
        have m7 := c7.trans (b7.trans (a7.trans j7))
        refine zk_ite (fun _ => zk_some ⟨h5', Or.inr ⟨rfl, m6, m7⟩⟩) (fun _ => ?_)
        have ex := zadd x 1 (by omega) (by omega)
        exact ihl (x + 1) t5 ⟨h5', m6, m7, by omega, by omega⟩ (by omega)
      · refine zk_call (ih1 0 σ hσ hB (by omega)) (fun r s hp => ?_)
        obtain ⟨hs, hx⟩ := hp
        exact zk_ck (hx.imp id And.left) (zk_some ⟨hs, hx⟩)
    · show zk (f_X1_readPiece (G_rd d) σ) _
      unfold f_X1_readPiece
      refine zk_ite (fun _ => ?_) (fun _ => zk_ite (fun _ => ?_) (fun _ => ?_))
      · refine zk_call (s_X1_readName σ hσ) (fun r s hp => ?_)
        obtain ⟨hs, hb, k6, k7⟩ := hp
        exact zk_ck hb (zk_some ⟨hs, hb.imp id (fun h => ⟨h, k6, k7⟩)⟩)
      · refine zk_call (s_X1_readNumber σ hσ) (fun r s hp => ?_)
        obtain ⟨hs, hb, k6, k7⟩ := hp
        exact zk_ck hb (zk_some ⟨hs, hb.imp id (fun h => ⟨h, k6, k7⟩)⟩)
      · refine zk_call (s_X1_signHere σ hσ) (fun r1 t1 hp => ?_)
        subst hp
        refine zk_ite (fun _ => ?_) (fun _ => zk_ite (fun _ => ?_) (fun _ => zk_some ⟨hσ, Or.inl rfl⟩))
        · refine zk_call (ih2 0 σ hσ hB (by omega)) (fun r s hp => ?_)
          obtain ⟨hs, hx⟩ := hp
          exact zk_ck (hx.imp id And.left) (zk_some ⟨hs, hx⟩)
        · refine zk_call (ih3 0 σ hσ hB (by omega)) (fun r s hp => ?_)
          obtain ⟨hs, hx⟩ := hp
          exact zk_ck (hx.imp id And.left) (zk_some ⟨hs, hx⟩)
    · show zk (f_X1_readNot (G_rd d) σ) _
      unfold f_X1_readNot
      refine zk_ite (fun h8 => ?_) (fun _ => zk_some ⟨hσ, Or.inl rfl⟩)
      have g8 := zlt h8
      obtain ⟨B1, B2, B3, B4⟩ := id hB
      have ea := zadd (σ 7 7) 1 (by omega) (by omega)
      refine zk_let (fun s1 q1 => ?_)
      have h1 : IX s1 := by rw [q1]; exact IX.up hσ xk_7 trivial
      have u6 : s1 7 6 = σ 7 6 := by rw [q1]; exact zkeepf rfl
      have u7 : s1 7 7 = σ 7 7 + 1 := by rw [q1]; exact zgot
      refine zk_call (s_X1_advance s1 h1) (fun r2 s2 hp => ?_)
      obtain ⟨h2, a6, a7⟩ := hp
      have v6 := a6.trans u6
      have v7 := a7.trans u7
      refine zk_call (ih1 0 s2 h2 (by unfold rdB; rw [v6, v7]; omega) (by unfold rdN at hd ⊢; rw [v6, v7]; omega)) (fun r3 s3 hp => ?_)
      obtain ⟨h3, hx⟩ := hp
      refine zk_ite (fun _ => zk_some ⟨h3, Or.inl rfl⟩) (fun hn => ?_)
      obtain ⟨-, b6, b7⟩ := hx.resolve_left hn
      refine zk_let (fun s4 q4 => ?_)
      have h4 : IX s4 := by rw [q4]; exact IX.up h3 xk_7 trivial
      have w6 : s4 7 6 = σ 7 6 := by rw [q4]; exact (zkeepf rfl).trans (b6.trans v6)
      have w7 : s4 7 7 = σ 7 7 := by rw [q4]; exact zgot.trans (by rw [b7, v7]; exact Int32.add_sub_cancel _ _)
      refine zk_call (s_X5_addStep 8 _ s4 h4 xk_8) (fun r5 s5 hp => ?_)
      obtain ⟨h5, c6, c7⟩ := hp
      exact zk_some ⟨h5, Or.inr ⟨rfl, c6.trans w6, c7.trans w7⟩⟩
    · show zk (f_X1_readBracket (G_rd d) σ) _
      unfold f_X1_readBracket
      refine zk_ite (fun h8 => ?_) (fun _ => zk_some ⟨hσ, Or.inl rfl⟩)
      have g8 := zlt h8
      obtain ⟨B1, B2, B3, B4⟩ := id hB
      have ea := zadd (σ 7 6) 1 (by omega) (by omega)
      refine zk_let (fun s1 q1 => ?_)
      have h1 : IX s1 := by rw [q1]; exact IX.up hσ xk_7 trivial
      have u6 : s1 7 6 = σ 7 6 + 1 := by rw [q1]; exact zgot
      have u7 : s1 7 7 = σ 7 7 := by rw [q1]; exact zkeepf rfl
      refine zk_call (s_X1_advance s1 h1) (fun r2 s2 hp => ?_)
      obtain ⟨h2, a6, a7⟩ := hp
      have v6 := a6.trans u6
      have v7 := a7.trans u7
      refine zk_call (ih0 0 s2 h2 (by unfold rdB; rw [v6, v7]; omega) (by omega) (by omega) (by unfold rdN at hd ⊢; rw [v6, v7]; omega)) (fun r3 s3 hp => ?_)
      obtain ⟨h3, hx⟩ := hp
      refine zk_ite (fun _ => zk_some ⟨h3, Or.inl rfl⟩) (fun hn => ?_)
      obtain ⟨-, b6, b7⟩ := hx.resolve_left hn
      refine zk_call (s_X1_signHere s3 h3) (fun r4 t4 hp => ?_)
      subst hp
      refine zk_ite (fun _ => ?_) (fun _ => zk_some ⟨h3, Or.inl rfl⟩)
      refine zk_let (fun s4 q4 => ?_)
      have h4 : IX s4 := by rw [q4]; exact IX.up h3 xk_7 trivial
      have w6 : s4 7 6 = σ 7 6 := by rw [q4]; exact zgot.trans (by rw [b6, v6]; exact Int32.add_sub_cancel _ _)
      have w7 : s4 7 7 = σ 7 7 := by rw [q4]; exact (zkeepf rfl).trans (b7.trans v7)
      refine zk_call (s_X1_advance s4 h4) (fun r5 s5 hp => ?_)
      obtain ⟨h5, c6, c7⟩ := hp
      exact zk_some ⟨h5, Or.inr ⟨rfl, c6.trans w6, c7.trans w7⟩⟩

set_option maxHeartbeats 400000 in
theorem s_X5_begin (q0 : Nat) (a1 : Int32) (σ : zg_S) (hσ : IX σ) (hq0 : XL.2.1 q0 = 5) : zk (f_X5_begin q0 a1 σ) (fun r s => IX s ∧ s 7 6 = σ 7 6 ∧ s 7 7 = σ 7 7) := by
  unfold f_X5_begin
  refine zk_let (fun σ1 q2 => ?_)
  have hS1 : IX σ1 := by rw [q2]; exact IX.up hσ hq0 trivial
  have kp3 : σ1 7 6 = σ 7 6 := by rw [q2]; exact zkeep hq0 xk_7 rfl
  have kp4 : σ1 7 7 = σ 7 7 := by rw [q2]; exact zkeep hq0 xk_7 rfl
  refine zk_let (fun σ7 q6 => ?_)
  have hS5 : IX σ7 := by rw [q6]; exact IX.up hS1 hq0 trivial
  have kp7 : σ7 7 6 = σ1 7 6 := by rw [q6]; exact zkeep hq0 xk_7 rfl
  have kp8 : σ7 7 7 = σ1 7 7 := by rw [q6]; exact zkeep hq0 xk_7 rfl
  refine zk_let (fun σ13 q10 => ?_)
  have hS9 : IX σ13 := by rw [q10]; exact IX.up hS5 hq0 (xconT (zTl zt_0) ⟨by omega, by omega⟩)
  have kp11 : σ13 7 6 = σ7 7 6 := by rw [q10]; exact zkeep hq0 xk_7 rfl
  have kp12 : σ13 7 7 = σ7 7 7 := by rw [q10]; exact zkeep hq0 xk_7 rfl
  have e13 := zt_0
  exact zk_some ⟨hS9, (kp11.trans (kp7.trans (kp3.trans rfl))), (kp12.trans (kp8.trans (kp4.trans rfl)))⟩

theorem s_X1_readText (a1 : Int32) (σ : zg_S) (hσ : IX σ) : zk (f_X1_readText a1 σ) (fun _ s => IX s) := by
  unfold f_X1_readText
  have e0 := zt_0
  have e96 := zt_96
  refine zk_call (s_X6_held a1 0 96 σ hσ) (fun r s hp => ?_)
  obtain ⟨rfl, hh⟩ := hp
  have hr := hh (by omega)
  refine zk_let (fun s1 q1 => ?_)
  have h1 : IX s1 := by rw [q1]; exact IX.up hσ xk_7 ⟨by omega, by omega⟩
  refine zk_let (fun s2 q2 => ?_)
  have h2 : IX s2 := by rw [q2]; exact IX.up h1 xk_7 trivial
  refine zk_let (fun s3 q3 => ?_)
  have h3 : IX s3 := by rw [q3]; exact IX.up h2 xk_7 ⟨by omega, by omega⟩
  refine zk_let (fun s4 q4 => ?_)
  have h4 : IX s4 := by rw [q4]; exact IX.up h3 xk_7 trivial
  refine zk_let (fun s5 q5 => ?_)
  have h5 : IX s5 := by rw [q5]; exact IX.up h4 xk_7 trivial
  have u6 : s5 7 6 = 0 := by rw [q5]; exact (zkeepf rfl).trans (by rw [q4]; exact zgot)
  have u7 : s5 7 7 = 0 := by rw [q5]; exact zgot
  refine zk_call (s_X1_advance s5 h5) (fun r6 s6 hp => ?_)
  obtain ⟨h6, a6, a7⟩ := hp
  refine zk_call (s_X1_keyHere s6 h6) (fun r7 s7 hp => ?_)
  subst hp
  refine zk_ite (fun _ => zk_some h6) (fun _ => ?_)
  refine zk_call (s_X5_begin 8 r7 s6 h6 xk_8) (fun r8 s8 hp => ?_)
  obtain ⟨h8, b6, b7⟩ := hp
  refine zk_call (s_X1_advance s8 h8) (fun r9 s9 hp => ?_)
  obtain ⟨h9, c6, c7⟩ := hp
  have m6 : s9 7 6 = 0 := c6.trans (b6.trans (a6.trans u6))
  have m7 : s9 7 7 = 0 := c7.trans (b7.trans (a7.trans u7))
  refine zk_call ((s_G_rd 128).1 0 s9 h9 (by unfold rdB; rw [m6, m7]; decide) (by omega) (by omega) (by unfold rdN; rw [m6, m7]; decide)) (fun r10 s10 hp => ?_)
  obtain ⟨h10, _⟩ := hp
  exact zk_ite (fun _ => zk_some h10) (fun _ => zk_ite (fun _ => zk_some h10) (fun _ => zk_some h10))

set_option maxHeartbeats 400000 in
theorem s_X2_become (q0 : Nat) (a1 : Int32) (a2 : Int32) (σ : zg_S) (hσ : IX σ) (hq0 : XL.2.1 q0 = 2) : zk (f_X2_become q0 a1 a2 σ) (fun r s => IX s) := by
  unfold f_X2_become
  refine zk_let (fun σ15 q2 => ?_)
  have hS1 : IX σ15 := by rw [q2]; exact IX.up hσ hq0 trivial
  have e3 := zt_0
  have e4 := zt_24
  refine zk_call (s_X6_held a2 0 24 σ15 hS1 ) (fun r21 σ22 hp5 => ?_)
  obtain ⟨rfl, x6⟩ := hp5
  refine zk_let (fun σ28 q8 => ?_)
  have hS7 : IX σ28 := by rw [q8]; exact IX.up hS1 hq0 (xconT (zTs r21) ⟨by omega, by omega⟩)
  unfold L_X2_become_18
  refine zl_I (fun (x3 : Int32) (s18_ : zg_S) => IX s18_ ∧ 0 ≤ x3.toInt ∧ x3.toInt ≤ 24) (fun (x3 : Int32) (s18_ : zg_S) => (24 - x3.toInt).toNat) ?_ zfu 0 σ28 ⟨hS7, (by omega), (by omega)⟩ (by unfold zfu; omega)
  intro rec18_ x3 s18_ hI9 ih18_
  obtain ⟨hS10, i11, i12⟩ := hI9
  unfold B_X2_become_18
  refine zk_ite (fun h13 => ?_) (fun h13 => ?_)
  · have g14 := zle h13
    have e15 := zt_24
    exact zk_some hS10
  · have g16 := znle h13
    have e17 := zt_24
    have z18 : zin x3 24 = true := zin_mkT (zTs x3) (by omega) (by omega)
    refine zk_in z18 ?_
    refine zk_let (fun σ7 q20 => ?_)
    have hS19 : IX σ7 := by rw [q20]; exact IX.up hS10 (xH1 hq0) trivial
    exact ih18_ (x3 + 1) σ7 ⟨hS19, (by rw [zTe (zTadd (zTs x3) (zTl zt_1) (by omega) (by omega))]; omega), (by rw [zTe (zTadd (zTs x3) (zTl zt_1) (by omega) (by omega))]; omega)⟩ (by show (24 - (x3 + 1).toInt).toNat < (24 - x3.toInt).toNat; rw [zTe (zTadd (zTs x3) (zTl zt_1) (by omega) (by omega))]; omega)

theorem zl_big {a b c : Int32} (ha : 0 ≤ a.toInt) (hb : 0 ≤ b.toInt) (h : ¬ 0 < lg_cmp (a.toInt64 + b.toInt64) c.toInt64) : a.toInt + b.toInt ≤ c.toInt := by
  have e := lg_i2l_add a b
  have h2 : ¬ c.toInt64 < a.toInt64 + b.toInt64 := fun z => h ((lg_cmp_gt _ _).mpr z)
  rw [Int64.lt_iff_toInt_lt, e, Int32.toInt_toInt64] at h2
  omega
theorem s_X2_hasPlaces (q0 : Nat) (a1 a2 : Int32) (σ : zg_S) (hσ : IX σ) (hq0 : XL.2.1 q0 = 2) : zk (f_X2_hasPlaces q0 a1 a2 σ) (fun r s => σ = s ∧ (r = 0 ∨ (r = 1 ∧ 0 ≤ a1.toInt ∧ 0 ≤ a2.toInt ∧ a1.toInt + a2.toInt ≤ (σ q0 1).toInt))) := by
  unfold f_X2_hasPlaces
  have e0 := zt_0
  refine zk_ite (fun h => zk_some ⟨rfl, Or.inl rfl⟩) (fun h1 => ?_)
  refine zk_ite (fun h => zk_some ⟨rfl, Or.inl rfl⟩) (fun h2 => ?_)
  refine zk_ite (fun h => zk_some ⟨rfl, Or.inl rfl⟩) (fun h3 => ?_)
  have g1 := znlt h1
  have g2 := znlt h2
  exact zk_some ⟨rfl, Or.inr ⟨rfl, by omega, by omega, zl_big (by omega) (by omega) h3⟩⟩

set_option maxHeartbeats 400000 in
theorem s_X2_isMissing (q0 : Nat) (σ : zg_S) (hσ : IX σ) (hq0 : XL.2.1 q0 = 2) : zk (f_X2_isMissing q0 σ) (fun r s => σ = s ∧ (r = 0 ∨ r = 1)) := by
  unfold f_X2_isMissing
  refine zk_ite (fun h1 => ?_) (fun h1 => ?_)
  · have g2 := zeq h1
    have e3 := zt_m1
    have e4 := zt_1
    exact zk_some ⟨rfl, (by first | exact Or.inl rfl | exact Or.inr rfl | assumption | omega | exact Or.inr ⟨rfl, by omega, by omega⟩ | exact Or.inr ⟨by omega, by omega⟩)⟩
  · have g5 := zne h1
    have e6 := zt_m1
    have e7 := zt_0
    exact zk_some ⟨rfl, (by first | exact Or.inl rfl | exact Or.inr rfl | assumption | omega | exact Or.inr ⟨rfl, by omega, by omega⟩ | exact Or.inr ⟨by omega, by omega⟩)⟩

set_option maxHeartbeats 400000 in
theorem s_X2_takeOver (q0 : Nat) (q1 : Nat) (σ : zg_S) (hσ : IX σ) (hq0 : XL.2.1 q0 = 2) (hq1 : XL.2.1 q1 = 2) : zk (f_X2_takeOver q0 q1 σ) (fun r s => IX s) := by
  unfold f_X2_takeOver
  refine zk_let (fun σ1 q2 => ?_)
  have hS1 : IX σ1 := by rw [q2]; exact IX.up hσ hq0 trivial
  refine zk_let (fun σ7 q4 => ?_)
  have f5 : 0 ≤ (σ1 q1 1).toInt ∧ (σ1 q1 1).toInt ≤ 24 := IXf hS1 hq1 1
  have hS3 : IX σ7 := by rw [q4]; exact IX.up hS1 hq0 (xconT (zTs (σ1 q1 1)) ⟨by omega, by omega⟩)
  refine zk_ck (by first | assumption | decide | omega | assumption) ?_
  refine zk_let (fun σ19 q7 => ?_)
  have hS6 : IX σ19 := by rw [q7]; exact IX.row hS3 (xH1 hq0)
  exact zk_some hS6

set_option maxHeartbeats 400000 in
theorem s_X3_refuses (q0 : Nat) (a1 : Int32) (σ : zg_S) (hσ : IX σ) (hq0 : XL.2.1 q0 = 3) : zk (f_X3_refuses q0 a1 σ) (fun r s => σ = s) := by
  unfold f_X3_refuses
  refine zk_ite (fun h1 => ?_) (fun h1 => ?_)
  · have g2 := zeq h1
    have e3 := zt_0
    exact zk_some rfl
  · have g4 := zne h1
    have e5 := zt_0
    refine zk_ite (fun h6 => ?_) (fun h6 => ?_)
    · have g7 := zeq h6
      exact zk_some rfl
    · have g8 := zne h6
      exact zk_some rfl
end
section
set_option maxHeartbeats 400000 in
theorem s_X4_isOf (q0 : Nat) (a1 : Int32) (σ : zg_S) (hσ : IX σ) (hq0 : XL.2.1 q0 = 4) : zk (f_X4_isOf q0 a1 σ) (fun r s => σ = s ∧ (r = 0 ∨ r = 1)) := by
  unfold f_X4_isOf
  have e1 := zt_0
  unfold L_X4_isOf_7
  refine zl_II (fun (x2 : Int32) (x3 : Int32) (s7_ : zg_S) => σ = s7_ ∧ 0 ≤ x3.toInt ∧ x3.toInt ≤ 6) (fun (x2 : Int32) (x3 : Int32) (s7_ : zg_S) => (6 - x3.toInt).toNat) ?_ zfu (σ q0 0) 0 σ ⟨rfl, (by omega), (by omega)⟩ (by unfold zfu; omega)
  intro rec7_ x2 x3 s7_ hI2 ih7_
  obtain ⟨rfl, i3, i4⟩ := hI2
  unfold B_X4_isOf_7
  refine zk_ite (fun h5 => ?_) (fun h5 => ?_)
  · have g6 := zle h5
    have e7 := zt_6
    have e8 := zt_0
    exact zk_some ⟨rfl, (by first | exact Or.inl rfl | exact Or.inr rfl | assumption | omega | exact Or.inr ⟨rfl, by omega, by omega⟩ | exact Or.inr ⟨by omega, by omega⟩)⟩
  · have g9 := znle h5
    have e10 := zt_6
    have e11 := zt_0
    have e12 := zt_5
    refine zk_call (s_X6_within x2 0 5 σ hσ ) (fun r4 σ5 hp13 => ?_)
    obtain ⟨rfl, x14⟩ := hp13
    refine zk_ite (fun h18 => ?_) (fun h18 => ?_)
    · have g19 := zeq h18
      exact zk_some ⟨rfl, (by first | exact Or.inl rfl | exact Or.inr rfl | assumption | omega | exact Or.inr ⟨rfl, by omega, by omega⟩ | exact Or.inr ⟨by omega, by omega⟩)⟩
    · have g20 := zne h18
      obtain ⟨_d15, _d16, _d17⟩ := x14.resolve_left h18
      refine zk_ite (fun h21 => ?_) (fun h21 => ?_)
      · have g22 := zeq h21
        have e23 := zt_1
        exact zk_some ⟨rfl, (by first | exact Or.inl rfl | exact Or.inr rfl | assumption | omega | exact Or.inr ⟨rfl, by omega, by omega⟩ | exact Or.inr ⟨by omega, by omega⟩)⟩
      · have g24 := zne h21
        have z25 : zin x2 6 = true := zin_mkT (zTs x2) (by omega) (by omega)
        refine zk_in z25 ?_
        refine zk_let (fun y19 ey26 => ?_)
        exact ih7_ y19 (x3 + 1) σ ⟨rfl, (by rw [zTe (zTadd (zTs x3) (zTl zt_1) (by omega) (by omega))]; omega), (by rw [zTe (zTadd (zTs x3) (zTl zt_1) (by omega) (by omega))]; omega)⟩ (by show (6 - (x3 + 1).toInt).toNat < (6 - x3.toInt).toNat; rw [zTe (zTadd (zTs x3) (zTl zt_1) (by omega) (by omega))]; omega)

set_option maxHeartbeats 400000 in
theorem s_X4_worth (q0 : Nat) (σ : zg_S) (hσ : IX σ) (hq0 : XL.2.1 q0 = 4) : zk (f_X4_worth q0 σ) (fun r s => σ = s) := by
  unfold f_X4_worth
  refine zk_ite (fun h1 => ?_) (fun h1 => ?_)
  · have g2 := zeq h1
    have e3 := zt_1
    exact zk_some rfl
  · have g4 := zne h1
    have e5 := zt_1
    refine zk_ite (fun h6 => ?_) (fun h6 => ?_)
    · have g7 := zeq h6
      have e8 := zt_2
      exact zk_some rfl
    · have g9 := zne h6
      have e10 := zt_2
      refine zk_ite (fun h11 => ?_) (fun h11 => ?_)
      · have g12 := zeq h11
        have e13 := zt_3
        exact zk_some rfl
      · have g14 := zne h11
        have e15 := zt_3
        refine zk_ite (fun h16 => ?_) (fun h16 => ?_)
        · have g17 := zeq h16
          have e18 := zt_4
          exact zk_some rfl
        · have g19 := zne h16
          have e20 := zt_4
          refine zk_ite (fun h21 => ?_) (fun h21 => ?_)
          · have g22 := zeq h21
            have e23 := zt_5
            exact zk_some rfl
          · have g24 := zne h21
            have e25 := zt_5
            exact zk_some rfl

theorem s_X6_isStall (a1 : Int32) (σ : zg_S) (hσ : IX σ) : zk (f_X6_isStall a1 σ) (fun r s => σ = s ∧ (r = 0 ∨ (r = 1 ∧ 0 ≤ a1.toInt ∧ a1.toInt < (σ 153 3).toInt))) := by
  unfold f_X6_isStall
  have f : 0 ≤ (σ 153 3).toInt ∧ (σ 153 3).toInt ≤ 9 := IXf hσ xk_153 3
  have e1 := zt_1
  have e0 := zt_0
  have e := zsub (σ 153 3) 1 (by omega) (by omega)
  refine zk_call (s_X6_within a1 0 ((σ 153 3) - 1) σ hσ) (fun r s hp => ?_)
  obtain ⟨rfl, x⟩ := hp
  rcases x with rfl | ⟨rfl, d1, d2⟩
  · exact zk_ck (Or.inl rfl) (zk_some ⟨rfl, Or.inl rfl⟩)
  · exact zk_ck (Or.inr rfl) (zk_some ⟨rfl, Or.inr ⟨rfl, by omega, by omega⟩⟩)

set_option maxHeartbeats 400000 in
theorem s_X6_as (a1 : Int32) (a2 : Int32) (σ : zg_S) (hσ : IX σ)  : zk (f_X6_as a1 a2 σ) (fun r s => σ = s) := by
  unfold f_X6_as
  refine zk_call (s_X6_isStall a1 σ hσ ) (fun r1 σ2 hp1 => ?_)
  obtain ⟨rfl, x2⟩ := hp1
  have f3 : 0 ≤ (σ 153 3).toInt ∧ (σ 153 3).toInt ≤ 9 := IXf hσ xk_153 3
  refine zk_ite (fun h7 => ?_) (fun h7 => ?_)
  · have g8 := zeq h7
    have e9 := zt_0
    exact zk_some rfl
  · have g10 := zne h7
    have e11 := zt_0
    obtain ⟨_d4, _d5, _d6⟩ := x2.resolve_left h7
    have e12 := zt_5
    refine zk_call (s_X6_within a2 0 5 σ hσ ) (fun r11 σ12 hp13 => ?_)
    obtain ⟨rfl, x14⟩ := hp13
    refine zk_ite (fun h18 => ?_) (fun h18 => ?_)
    · have g19 := zeq h18
      exact zk_some rfl
    · have g20 := zne h18
      obtain ⟨_d15, _d16, _d17⟩ := x14.resolve_left h18
      have z21 : zin a1 9 = true := zin_mkT (zTs a1) (by omega) (by omega)
      refine zk_in z21 ?_
      refine zk_call (s_X4_isOf (154 + 2 + (Int32.toNatClampNeg a1)) a2 σ hσ (xS xk_154 (zIn z21).2)) (fun r25 σ26 hp22 => ?_)
      obtain ⟨rfl, x23⟩ := hp22
      refine zk_ite (fun h24 => ?_) (fun h24 => ?_)
      · have g25 := zeq h24
        exact zk_some rfl
      · have g26 := zne h24
        exact zk_some rfl

theorem s_X6_isSlot (a0 : Int32) (σ : zg_S) (hσ : IX σ) : zk (f_X6_isSlot a0 σ) (fun r s => σ = s ∧ (r = 0 ∨ (r = 1 ∧ 0 ≤ a0.toInt ∧ a0.toInt ≤ 4))) := by
  unfold f_X6_isSlot
  have e1 := zt_4
  have e0 := zt_0
  refine zk_call (s_X6_within a0 0 4 σ hσ) (fun r s hp => ?_)
  obtain ⟨rfl, x⟩ := hp
  rcases x with rfl | ⟨rfl, d1, d2⟩
  · exact zk_ck (Or.inl rfl) (zk_some ⟨rfl, Or.inl rfl⟩)
  · exact zk_ck (Or.inr rfl) (zk_some ⟨rfl, Or.inr ⟨rfl, by omega, by omega⟩⟩)

set_option maxHeartbeats 400000 in
theorem s_X6_ask (a1 : Int32) (a2 : Int32) (σ : zg_S) (hσ : IX σ)  : zk (f_X6_ask a1 a2 σ) (fun r s => σ = s) := by
  unfold f_X6_ask
  refine zk_call (s_X6_isSlot a1 σ hσ ) (fun r1 σ2 hp1 => ?_)
  obtain ⟨rfl, x2⟩ := hp1
  refine zk_ite (fun h6 => ?_) (fun h6 => ?_)
  · have g7 := zeq h6
    have e8 := zt_0
    exact zk_some rfl
  · have g9 := zne h6
    have e10 := zt_0
    obtain ⟨_d3, _d4, _d5⟩ := x2.resolve_left h6
    have e11 := zt_5
    refine zk_call (s_X6_within a2 0 5 σ hσ ) (fun r11 σ12 hp12 => ?_)
    obtain ⟨rfl, x13⟩ := hp12
    refine zk_ite (fun h17 => ?_) (fun h17 => ?_)
    · have g18 := zeq h17
      exact zk_some rfl
    · have g19 := zne h17
      obtain ⟨_d14, _d15, _d16⟩ := x13.resolve_left h17
      have z20 : zin a1 5 = true := zin_mkT (zTs a1) (by omega) (by omega)
      refine zk_in z20 ?_
      have e21 := zt_1
      refine zk_call (s_X3_refuses (61 + 4 * (Int32.toNatClampNeg a1)) 1 σ hσ (xO (zIn z20).2)) (fun r23 σ24 hp22 => ?_)
      subst hp22
      refine zk_ite (fun h23 => ?_) (fun h23 => ?_)
      · have g24 := zeq h23
        refine zk_call (s_X4_isOf ((61 + 4 * (Int32.toNatClampNeg a1)) + 1) a2 σ hσ (xO1 (xO (zIn z20).2))) (fun r36 σ37 hp25 => ?_)
        obtain ⟨rfl, x26⟩ := hp25
        refine zk_ite (fun h27 => ?_) (fun h27 => ?_)
        · have g28 := zeq h27
          exact zk_some rfl
        · have g29 := zne h27
          refine zk_call (s_X4_worth ((61 + 4 * (Int32.toNatClampNeg a1)) + 1) σ hσ (xO1 (xO (zIn z20).2))) (fun r46 σ47 hp30 => ?_)
          subst hp30
          exact zk_some rfl
      · have g31 := zne h23
        exact zk_some rfl

set_option maxHeartbeats 400000 in
theorem s_X6_back  (σ : zg_S) (hσ : IX σ)  : zk (f_X6_back  σ) (fun r s => IX s) := by
  unfold f_X6_back
  refine zk_ite (fun h1 => ?_) (fun h1 => ?_)
  · have g2 := zeq h1
    have e3 := zt_0
    exact zk_some hσ
  · have g4 := zne h1
    have e5 := zt_0
    have e6 := zt_153
    have e7 := zt_177
    refine zk_call (s_X0_takeOver 153 177 σ hσ xk_153 xk_177) (fun r3 σ4 hp8 => ?_)
    have hS9 := hp8
    exact zk_some hS9

set_option maxHeartbeats 400000 in
theorem s_X6_thinkOn (a1 : Int32) (σ : zg_S) (hσ : IX σ) (hp0_ : a1.toInt ≤ 100) : zk (f_X6_thinkOn a1 σ) (fun r s => IX s) := by
  unfold f_X6_thinkOn
  have e1 := zt_0
  unfold L_X6_thinkOn_2
  refine zl_I (fun (x2 : Int32) (s2_ : zg_S) => IX s2_ ∧ 0 ≤ x2.toInt ∧ x2.toInt ≤ 100) (fun (x2 : Int32) (s2_ : zg_S) => (100 - x2.toInt).toNat) ?_ zfu 0 σ ⟨hσ, (by omega), (by omega)⟩ (by unfold zfu; omega)
  intro rec2_ x2 s2_ hI2 ih2_
  obtain ⟨hS3, i4, i5⟩ := hI2
  unfold B_X6_thinkOn_2
  refine zk_ite (fun h6 => ?_) (fun h6 => ?_)
  · have g7 := zle h6
    exact zk_some hS3
  · have g8 := znle h6
    have e9 := zt_165
    refine zk_call (s_X0_hauling 165 s2_ hS3 xk_165) (fun r4 σ5 hp10 => ?_)
    have hS11 := hp10
    refine zk_call (s_X0_passHour 165 r4 σ5 hS11 xk_165) (fun r11 σ12 hp12 => ?_)
    have hS13 := hp12
    exact ih2_ (x2 + 1) σ12 ⟨hS13, (by rw [zTe (zTadd (zTs x2) (zTl zt_1) (by omega) (by omega))]; omega), (by rw [zTe (zTadd (zTs x2) (zTl zt_1) (by omega) (by omega))]; omega)⟩ (by show (100 - (x2 + 1).toInt).toNat < (100 - x2.toInt).toNat; rw [zTe (zTadd (zTs x2) (zTl zt_1) (by omega) (by omega))]; omega)

set_option maxHeartbeats 400000 in
theorem s_X6_behind (a1 : Int32) (a2 : Int32) (σ : zg_S) (hσ : IX σ)  : zk (f_X6_behind a1 a2 σ) (fun r s => IX s) := by
  unfold f_X6_behind
  have e1 := zt_0
  have e2 := zt_100
  refine zk_call (s_X6_within a1 0 100 σ hσ ) (fun r1 σ2 hp3 => ?_)
  obtain ⟨rfl, x4⟩ := hp3
  refine zk_ite (fun h8 => ?_) (fun h8 => ?_)
  · have g9 := zeq h8
    exact zk_some hσ
  · have g10 := zne h8
    obtain ⟨_d5, _d6, _d7⟩ := x4.resolve_left h8
    have e11 := zt_3
    refine zk_call (s_X6_within a2 0 3 σ hσ ) (fun r11 σ12 hp12 => ?_)
    obtain ⟨rfl, x13⟩ := hp12
    refine zk_ite (fun h17 => ?_) (fun h17 => ?_)
    · have g18 := zeq h17
      exact zk_some hσ
    · have g19 := zne h17
      obtain ⟨_d14, _d15, _d16⟩ := x13.resolve_left h17
      have e20 := zt_165
      have e21 := zt_153
      refine zk_call (s_X0_takeOver 165 153 σ hσ xk_165 xk_153) (fun r20 σ21 hp22 => ?_)
      have hS23 := hp22
      refine zk_call (s_X6_thinkOn a1 σ21 hS23 (by omega)) (fun r27 σ28 hp24 => ?_)
      have hS25 := hp24
      refine zk_ite (fun h26 => ?_) (fun h26 => ?_)
      · have g27 := zeq h26
        exact zk_some hS25
      · have g28 := zne h26
        refine zk_ite (fun h29 => ?_) (fun h29 => ?_)
        · have g30 := zeq h29
          have e31 := zt_1
          exact zk_some hS25
        · have g32 := zne h29
          have e33 := zt_1
          refine zk_ite (fun h34 => ?_) (fun h34 => ?_)
          · have g35 := zeq h34
            have e36 := zt_2
            exact zk_some hS25
          · have g37 := zne h34
            have e38 := zt_2
            exact zk_some hS25

theorem s_G_th : ∀ (d : Nat) (z0 z1 z2 : Int32) (σ : zg_S), IX σ → 0 ≤ z0.toInt → z0.toInt ≤ 5 → 6 - z0.toInt ≤ d → zk (G_th d 0 z0 z1 z2 σ) (fun _ s => IX s) := by
  have e0 := zt_0
  have e1 := zt_1
  have e3 := zt_3
  have e5 := zt_5
  intro d
  induction d with
  | zero => intro z0 z1 z2 σ _ h0 h5 hd; omega
  | succ d ih =>
    intro z0 z1 z2 σ hσ h0 h5 hd
    show zk (f_X6_tryHaulings (G_th d) z0 z1 z2 σ) _
    unfold f_X6_tryHaulings
    refine zk_ite (fun _ => zk_some hσ) (fun _ => ?_)
    refine zk_ite (fun _ => ?_) (fun _ => zk_some hσ)
    have z : zin z0 6 = true := zin_mk (by omega) (by omega)
    refine zk_in z ?_
    have b41 : ∀ s : zg_S, IX s → zk (B_X6_tryHaulings_41 (G_th d) z0 z1 z2 (81 + 12 * (Int32.toNatClampNeg z0)) s) (fun _ s => IX s) := by
      intro s hs
      unfold B_X6_tryHaulings_41
      refine zk_let (fun s1 q1 => zk_let (fun s2 q2 => zk_some ?_))
      rw [q2, q1]
      exact IX.up (IX.up hs xk_0 trivial) xk_0 trivial
    refine zk_ite (fun _ => ?_) (fun _ => zk_some hσ)
    refine zk_ite (fun _ => b41 σ hσ) (fun _ => ?_)
    refine zk_ite (fun _ => b41 σ hσ) (fun hn => ?_)
    have g5 := zne hn
    unfold L_X6_tryHaulings_59
    refine zl_NI (fun (q : Nat) (x : Int32) (s : zg_S) => IX s ∧ XL.2.1 q = 0 ∧ 0 ≤ x.toInt ∧ x.toInt ≤ 3) (fun (q : Nat) (x : Int32) (s : zg_S) => (3 - x.toInt).toNat) ?_ zfu _ _ _ ⟨hσ, xA (zIn z).2, by omega, by omega⟩ (by unfold zfu; omega)
    intro rec q x s hI ihl
    obtain ⟨hs, hq, i1, i2⟩ := hI
    unfold B_X6_tryHaulings_59
    refine zk_ite (fun _ => zk_some hs) (fun h3 => ?_)
    have g3 := znle h3
    have ea := zadd z0 1 (by omega) (by omega)
    have z1 : zin (z0 + 1) 6 = true := zin_mk (by omega) (by omega)
    refine zk_in z1 ?_
    refine zk_call (s_X0_takeOver _ q s hs (xA (zIn z1).2) hq) (fun r1 s1 h1 => ?_)
    refine zk_call (s_X0_passHour _ x s1 h1 (xA (zIn z1).2)) (fun r2 s2 h2 => ?_)
    refine zk_call (ih (z0 + 1) _ _ s2 h2 (by omega) (by omega) (by omega)) (fun r3 s3 h3 => ?_)
    have ex := zadd x 1 (by omega) (by omega)
    exact ihl q (x + 1) s3 ⟨h3, hq, by omega, by omega⟩ (by omega)

set_option maxHeartbeats 400000 in
theorem s_X6_best (a1 : Int32) (a2 : Int32) (σ : zg_S) (hσ : IX σ)  : zk (f_X6_best a1 a2 σ) (fun r s => IX s) := by
  unfold f_X6_best
  have e1 := zt_1
  have e2 := zt_5
  refine zk_call (s_X6_within a1 1 5 σ hσ ) (fun r1 σ2 hp3 => ?_)
  obtain ⟨rfl, x4⟩ := hp3
  refine zk_ite (fun h8 => ?_) (fun h8 => ?_)
  · have g9 := zeq h8
    have e10 := zt_0
    exact zk_some hσ
  · have g11 := zne h8
    have e12 := zt_0
    obtain ⟨_d5, _d6, _d7⟩ := x4.resolve_left h8
    refine zk_call (s_X6_within a2 0 1 σ hσ ) (fun r11 σ12 hp13 => ?_)
    obtain ⟨rfl, x14⟩ := hp13
    refine zk_ite (fun h18 => ?_) (fun h18 => ?_)
    · have g19 := zeq h18
      exact zk_some hσ
    · have g20 := zne h18
      obtain ⟨_d15, _d16, _d17⟩ := x14.resolve_left h18
      refine zk_let (fun σ20 q22 => ?_)
      have hS21 : IX σ20 := by rw [q22]; exact IX.up hσ xk_0 trivial
      refine zk_let (fun σ26 q24 => ?_)
      have hS23 : IX σ26 := by rw [q24]; exact IX.up hS21 xk_0 trivial
      have e25 := zt_81
      have e26 := zt_153
      refine zk_call (s_X0_takeOver 81 153 σ26 hS23 xk_81 xk_153) (fun r32 σ33 hp27 => ?_)
      have hS28 := hp27
      refine zk_call (s_G_th 8 0 a1 0 σ33 hS28 (by omega) (by omega) (by omega)) (fun r39 σ40 hS30 => ?_)
      refine zk_ite (fun h31 => ?_) (fun h31 => ?_)
      · have g32 := zeq h31
        exact zk_some hS30
      · have g33 := zne h31
        exact zk_some hS30

set_option maxHeartbeats 400000 in
theorem s_X6_book (a1 : Int32) (σ : zg_S) (hσ : IX σ)  : zk (f_X6_book a1 σ) (fun r s => σ = s) := by
  unfold f_X6_book
  refine zk_ite (fun h1 => ?_) (fun h1 => ?_)
  · have g2 := zeq h1
    have e3 := zt_0
    exact zk_some rfl
  · have g4 := zne h1
    have e5 := zt_0
    refine zk_ite (fun h6 => ?_) (fun h6 => ?_)
    · have g7 := zeq h6
      have e8 := zt_1
      exact zk_some rfl
    · have g9 := zne h6
      have e10 := zt_1
      refine zk_ite (fun h11 => ?_) (fun h11 => ?_)
      · have g12 := zeq h11
        have e13 := zt_2
        exact zk_some rfl
      · have g14 := zne h11
        have e15 := zt_2
        refine zk_ite (fun h16 => ?_) (fun h16 => ?_)
        · have g17 := zeq h16
          have e18 := zt_3
          have e19 := zt_153
          refine zk_call (s_X0_allGoods 153 σ hσ xk_153) (fun r12 σ13 hp20 => ?_)
          subst hp20
          exact zk_some rfl
        · have g21 := zne h16
          have e22 := zt_3
          exact zk_some rfl
end
section
set_option maxHeartbeats 400000 in
theorem s_X6_check (a1 : Int32) (σ : zg_S) (hσ : IX σ)  : zk (f_X6_check a1 σ) (fun r s => IX s) := by
  unfold f_X6_check
  refine zk_let (fun σ47 q2 => ?_)
  have hS1 : IX σ47 := by rw [q2]; exact IX.up hσ xk_0 (xconT (zTl zt_0) ⟨by omega, by omega⟩)
  have e3 := zt_1
  have e4 := zt_30
  refine zk_call (s_X6_within a1 1 30 σ47 hS1 ) (fun r53 σ54 hp5 => ?_)
  obtain ⟨rfl, x6⟩ := hp5
  refine zk_ite (fun h10 => ?_) (fun h10 => ?_)
  · have g11 := zeq h10
    have e12 := zt_0
    exact zk_some hS1
  · have g13 := zne h10
    have e14 := zt_0
    obtain ⟨_d7, _d8, _d9⟩ := x6.resolve_left h10
    refine zk_ite (fun h15 => ?_) (fun h15 => ?_)
    · have g16 := zeq h15
      exact zk_some hS1
    · have g17 := zne h15
      have e18 := zt_165
      have e19 := zt_177
      refine zk_call (s_X0_takeOver 165 177 σ47 hS1 xk_165 xk_177) (fun r64 σ65 hp20 => ?_)
      have hS21 := hp20
      refine zk_let (fun y71 ey22 => ?_)
      have g23 := zmin ey22
      have f24 : 0 ≤ (σ 0 11).toInt ∧ (σ 0 11).toInt ≤ 60 := IXf hσ xk_0 11
      unfold L_X6_check_64
      refine zl_III (fun (x2 : Int32) (x3 : Int32) (x4 : Int32) (s64_ : zg_S) => IX s64_ ∧ 0 ≤ x2.toInt ∧ x2.toInt ≤ 60 ∧ x3.toInt ≤ 30 ∧ 0 ≤ x4.toInt ∧ x4.toInt ≤ 30) (fun (x2 : Int32) (x3 : Int32) (x4 : Int32) (s64_ : zg_S) => (30 - x4.toInt).toNat) ?_ zfu (σ 0 11) y71 0 σ65 ⟨hS21, (by omega), (by omega), (by omega), (by omega), (by omega)⟩ (by unfold zfu; omega)
      intro rec64_ x2 x3 x4 s64_ hI25 ih64_
      obtain ⟨hS26, i27, i28, i29, i30, i31⟩ := hI25
      unfold B_X6_check_64
      refine zk_ite (fun h32 => ?_) (fun h32 => ?_)
      · have g33 := zle h32
        refine zk_ite (fun h34 => ?_) (fun h34 => ?_)
        · have g35 := zle h34
          exact zk_some hS26
        · have g36 := znle h34
          exact zk_some hS26
      · have g37 := znle h32
        have e38 := zt_165
        refine zk_call (s_X0_hauling 165 s64_ hS26 xk_165) (fun r9 σ10 hp39 => ?_)
        have hS40 := hp39
        refine zk_call (s_X0_passHour 165 r9 σ10 hS40 xk_165) (fun r16 σ17 hp41 => ?_)
        have hS42 := hp41
        refine zk_ite (fun h43 => ?_) (fun h43 => ?_)
        · have g44 := zle h43
          have e45 := zt_2
          have e46 := zmulL x4 2 2 zt_2 (by omega) (by omega)
          unfold B_X6_check_113
          exact zk_some hS42
        · have g47 := znle h43
          have e48 := zt_2
          have e49 := zmulL x4 2 2 zt_2 (by omega) (by omega)
          have z50 : zin (2 * x4) 60 = true := zin_mkT (zTmul (zTl zt_2) (zTs x4) (by omega) (by omega)) (by omega) (by omega)
          refine zk_in z50 ?_
          refine zk_ite (fun h51 => ?_) (fun h51 => ?_)
          · have g52 := zeq h51
            refine zk_ite (fun h53 => ?_) (fun h53 => ?_)
            · have g54 := zle h53
              have e55 := zt_1
              have e56 := zadd (2 * x4) 1 (by omega) (by omega)
              unfold B_X6_check_145
              exact zk_some hS42
            · have g57 := znle h53
              have e58 := zt_1
              have e59 := zadd (2 * x4) 1 (by omega) (by omega)
              have z60 : zin ((2 * x4) + 1) 60 = true := zin_mkT (zTadd (zTmul (zTl zt_2) (zTs x4) (by omega) (by omega)) (zTl zt_1) (by omega) (by omega)) (by omega) (by omega)
              refine zk_in z60 ?_
              refine zk_ite (fun h61 => ?_) (fun h61 => ?_)
              · have g62 := zeq h61
                exact ih64_ x2 x3 (x4 + 1) σ17 ⟨hS42, (by omega), (by omega), (by omega), (by rw [zTe (zTadd (zTs x4) (zTl zt_1) (by omega) (by omega))]; omega), (by rw [zTe (zTadd (zTs x4) (zTl zt_1) (by omega) (by omega))]; omega)⟩ (by show (30 - (x4 + 1).toInt).toNat < (30 - x4.toInt).toNat; rw [zTe (zTadd (zTs x4) (zTl zt_1) (by omega) (by omega))]; omega)
              · have g63 := zne h61
                unfold B_X6_check_145
                exact zk_some hS42
          · have g64 := zne h51
            unfold B_X6_check_113
            exact zk_some hS42

set_option maxHeartbeats 400000 in
theorem s_X6_cloth (a1 : Int32) (σ : zg_S) (hσ : IX σ)  : zk (f_X6_cloth a1 σ) (fun r s => σ = s) := by
  unfold f_X6_cloth
  refine zk_ite (fun h1 => ?_) (fun h1 => ?_)
  · have g2 := zeq h1
    have e3 := zt_0
    exact zk_some rfl
  · have g4 := zne h1
    have e5 := zt_0
    refine zk_ite (fun h6 => ?_) (fun h6 => ?_)
    · have g7 := zeq h6
      have e8 := zt_1
      exact zk_some rfl
    · have g9 := zne h6
      have e10 := zt_1
      refine zk_ite (fun h11 => ?_) (fun h11 => ?_)
      · have g12 := zeq h11
        have e13 := zt_2
        exact zk_some rfl
      · have g14 := zne h11
        have e15 := zt_2
        refine zk_ite (fun h16 => ?_) (fun h16 => ?_)
        · have g17 := zeq h16
          have e18 := zt_3
          exact zk_some rfl
        · have g19 := zne h16
          have e20 := zt_3
          refine zk_ite (fun h21 => ?_) (fun h21 => ?_)
          · have g22 := zeq h21
            have e23 := zt_4
            have e24 := zt_153
            refine zk_call (s_X0_heat 153 σ hσ xk_153) (fun r15 σ16 hp25 => ?_)
            subst hp25
            exact zk_some rfl
          · have g26 := zne h21
            have e27 := zt_4
            refine zk_ite (fun h28 => ?_) (fun h28 => ?_)
            · have g29 := zeq h28
              have e30 := zt_5
              have e31 := zt_153
              refine zk_call (s_X0_firstShaded 153 σ hσ xk_153) (fun r25 σ26 hp32 => ?_)
              subst hp32
              exact zk_some rfl
            · have g33 := zne h28
              have e34 := zt_5
              refine zk_ite (fun h35 => ?_) (fun h35 => ?_)
              · have g36 := zeq h35
                have e37 := zt_6
                have e38 := zt_153
                refine zk_call (s_X0_shadedSet 153 σ hσ xk_153) (fun r35 σ36 hp39 => ?_)
                subst hp39
                exact zk_some rfl
              · have g40 := zne h35
                have e41 := zt_6
                exact zk_some rfl

theorem s_X6_isSheet (a0 : Int32) (σ : zg_S) (hσ : IX σ) : zk (f_X6_isSheet a0 σ) (fun r s => σ = s ∧ (r = 0 ∨ (r = 1 ∧ 0 ≤ a0.toInt ∧ a0.toInt ≤ 3))) := by
  unfold f_X6_isSheet
  have e1 := zt_3
  have e0 := zt_0
  refine zk_call (s_X6_within a0 0 3 σ hσ) (fun r s hp => ?_)
  obtain ⟨rfl, x⟩ := hp
  rcases x with rfl | ⟨rfl, d1, d2⟩
  · exact zk_ck (Or.inl rfl) (zk_some ⟨rfl, Or.inl rfl⟩)
  · exact zk_ck (Or.inr rfl) (zk_some ⟨rfl, Or.inr ⟨rfl, by omega, by omega⟩⟩)

set_option maxHeartbeats 400000 in
theorem s_X6_copy (a1 : Int32) (a2 : Int32) (a3 : Int32) (a4 : Int32) (a5 : Int32) (σ : zg_S) (hσ : IX σ)  : zk (f_X6_copy a1 a2 a3 a4 a5 σ) (fun r s => IX s) := by
  unfold f_X6_copy
  refine zk_call (s_X6_isSheet a1 σ hσ ) (fun r1 σ2 hp1 => ?_)
  obtain ⟨rfl, x2⟩ := hp1
  refine zk_ite (fun h6 => ?_) (fun h6 => ?_)
  · have g7 := zeq h6
    have e8 := zt_0
    exact zk_some hσ
  · have g9 := zne h6
    have e10 := zt_0
    obtain ⟨_d3, _d4, _d5⟩ := x2.resolve_left h6
    refine zk_call (s_X6_isSheet a3 σ hσ ) (fun r11 σ12 hp11 => ?_)
    obtain ⟨rfl, x12⟩ := hp11
    refine zk_ite (fun h16 => ?_) (fun h16 => ?_)
    · have g17 := zeq h16
      exact zk_some hσ
    · have g18 := zne h16
      obtain ⟨_d13, _d14, _d15⟩ := x12.resolve_left h16
      have z19 : zin a1 4 = true := zin_mkT (zTs a1) (by omega) (by omega)
      refine zk_in z19 ?_
      have z20 : zin a3 4 = true := zin_mkT (zTs a3) (by omega) (by omega)
      refine zk_in z20 ?_
      refine zk_call (s_X2_isMissing (53 + 2 * (Int32.toNatClampNeg a1)) σ hσ (xH (zIn z19).2)) (fun r30 σ31 hp21 => ?_)
      obtain ⟨rfl, x22⟩ := hp21
      refine zk_ite (fun h23 => ?_) (fun h23 => ?_)
      · have g24 := zeq h23
        refine zk_call (s_X2_isMissing (53 + 2 * (Int32.toNatClampNeg a3)) σ hσ (xH (zIn z20).2)) (fun r40 σ41 hp25 => ?_)
        obtain ⟨rfl, x26⟩ := hp25
        refine zk_ite (fun h27 => ?_) (fun h27 => ?_)
        · have g28 := zeq h27
          refine zk_ite (fun h29 => ?_) (fun h29 => ?_)
          · have g30 := zeq h29
            refine zk_call (s_X2_hasPlaces (53 + 2 * (Int32.toNatClampNeg a1)) a2 a5 σ hσ (xH (zIn z19).2)) (fun r51 σ52 hp31 => ?_)
            obtain ⟨rfl, x32⟩ := hp31
            have f33 : 0 ≤ (σ (53 + 2 * (Int32.toNatClampNeg a1)) 1).toInt ∧ (σ (53 + 2 * (Int32.toNatClampNeg a1)) 1).toInt ≤ 24 := IXf hσ (xH (zIn z19).2) 1
            refine zk_ite (fun h38 => ?_) (fun h38 => ?_)
            · have g39 := zeq h38
              exact zk_some hσ
            · have g40 := zne h38
              obtain ⟨_d34, _d35, _d36, _d37⟩ := x32.resolve_left h38
              refine zk_call (s_X2_hasPlaces (53 + 2 * (Int32.toNatClampNeg a3)) a4 a5 σ hσ (xH (zIn z20).2)) (fun r61 σ62 hp41 => ?_)
              obtain ⟨rfl, x42⟩ := hp41
              have f43 : 0 ≤ (σ (53 + 2 * (Int32.toNatClampNeg a3)) 1).toInt ∧ (σ (53 + 2 * (Int32.toNatClampNeg a3)) 1).toInt ≤ 24 := IXf hσ (xH (zIn z20).2) 1
              refine zk_ite (fun h48 => ?_) (fun h48 => ?_)
              · have g49 := zeq h48
                exact zk_some hσ
              · have g50 := zne h48
                obtain ⟨_d44, _d45, _d46, _d47⟩ := x42.resolve_left h48
                refine zk_ck (by first | assumption | decide | omega | exact zcp (by omega) (by omega) (by omega) (by omega) (by omega)) ?_
                refine zk_let (fun σ76 q52 => ?_)
                have hS51 : IX σ76 := by rw [q52]; exact IX.row hσ (xH1 (xH (zIn z20).2))
                exact zk_some hS51
          · have g53 := zne h29
            exact zk_some hσ
        · have g54 := zne h27
          exact zk_some hσ
      · have g55 := zne h23
        exact zk_some hσ

set_option maxHeartbeats 400000 in
theorem s_X6_count (a1 : Int32) (σ : zg_S) (hσ : IX σ)  : zk (f_X6_count a1 σ) (fun r s => σ = s) := by
  unfold f_X6_count
  refine zk_ite (fun h1 => ?_) (fun h1 => ?_)
  · have g2 := zeq h1
    have e3 := zt_0
    exact zk_some rfl
  · have g4 := zne h1
    have e5 := zt_0
    refine zk_ite (fun h6 => ?_) (fun h6 => ?_)
    · have g7 := zeq h6
      have e8 := zt_1
      exact zk_some rfl
    · have g9 := zne h6
      have e10 := zt_1
      refine zk_ite (fun h11 => ?_) (fun h11 => ?_)
      · have g12 := zeq h11
        have e13 := zt_2
        have e14 := zt_153
        refine zk_call (s_X0_shadedSet 153 σ hσ xk_153) (fun r9 σ10 hp15 => ?_)
        subst hp15
        refine zk_call (s_J6_bitCount_0f7a4 r9 σ hσ ) (fun r16 σ17 hp16 => ?_)
        subst hp16
        exact zk_some rfl
      · have g17 := zne h11
        have e18 := zt_2
        refine zk_ite (fun h19 => ?_) (fun h19 => ?_)
        · have g20 := zeq h19
          have e21 := zt_3
          exact zk_some rfl
        · have g22 := zne h19
          have e23 := zt_3
          refine zk_ite (fun h24 => ?_) (fun h24 => ?_)
          · have g25 := zeq h24
            have e26 := zt_4
            exact zk_some rfl
          · have g27 := zne h24
            have e28 := zt_4
            refine zk_ite (fun h29 => ?_) (fun h29 => ?_)
            · have g30 := zeq h29
              have e31 := zt_5
              exact zk_some rfl
            · have g32 := zne h29
              have e33 := zt_5
              refine zk_ite (fun h34 => ?_) (fun h34 => ?_)
              · have g35 := zeq h34
                have e36 := zt_6
                exact zk_some rfl
              · have g37 := zne h34
                have e38 := zt_6
                exact zk_some rfl

set_option maxHeartbeats 400000 in
theorem s_X6_deal (a1 : Int32) (σ : zg_S) (hσ : IX σ)  : zk (f_X6_deal a1 σ) (fun r s => IX s) := by
  unfold f_X6_deal
  have e1 := zt_1
  have e2 := zt_9
  refine zk_call (s_X6_within a1 1 9 σ hσ ) (fun r40 σ41 hp3 => ?_)
  obtain ⟨rfl, x4⟩ := hp3
  refine zk_ite (fun h8 => ?_) (fun h8 => ?_)
  · have g9 := zeq h8
    have e10 := zt_0
    exact zk_some hσ
  · have g11 := zne h8
    have e12 := zt_0
    obtain ⟨_d5, _d6, _d7⟩ := x4.resolve_left h8
    refine zk_let (fun y49 ey13 => ?_)
    have g14 := zmin ey13
    unfold L_X6_deal_30
    refine zl_II (fun (x2 : Int32) (x3 : Int32) (s30_ : zg_S) => IX s30_ ∧ x2.toInt ≤ 9 ∧ 0 ≤ x3.toInt ∧ x3.toInt ≤ 9) (fun (x2 : Int32) (x3 : Int32) (s30_ : zg_S) => (9 - x3.toInt).toNat) ?_ zfu y49 0 σ ⟨hσ, (by omega), (by omega), (by omega)⟩ (by unfold zfu; omega)
    intro rec30_ x2 x3 s30_ hI15 ih30_
    obtain ⟨hS16, i17, i18, i19⟩ := hI15
    unfold B_X6_deal_30
    refine zk_ite (fun h20 => ?_) (fun h20 => ?_)
    · have g21 := zle h20
      exact zk_some hS16
    · have g22 := znle h20
      have e23 := zt_153
      refine zk_call (s_X0_draw 153 s30_ hS16 xk_153) (fun r4 σ5 hp24 => ?_)
      have hS25 := hp24
      refine zk_call (s_X0_draw 153 σ5 hS25 xk_153) (fun r13 σ14 hp26 => ?_)
      have hS27 := hp26
      refine zk_call (s_X0_draw 153 σ14 hS27 xk_153) (fun r22 σ23 hp28 => ?_)
      have hS29 := hp28
      refine zk_call (s_X0_open 153 (r4 - r4 / 6 * 6) (r13 - r13 / 12 * 12) (r22 - r22 / 40 * 40) σ23 hS29 xk_153) (fun r31 σ32 hp30 => ?_)
      have hS31 := hp30
      exact ih30_ x2 (x3 + 1) σ32 ⟨hS31, (by omega), (by rw [zTe (zTadd (zTs x3) (zTl zt_1) (by omega) (by omega))]; omega), (by rw [zTe (zTadd (zTs x3) (zTl zt_1) (by omega) (by omega))]; omega)⟩ (by show (9 - (x3 + 1).toInt).toNat < (9 - x3.toInt).toNat; rw [zTe (zTadd (zTs x3) (zTl zt_1) (by omega) (by omega))]; omega)

set_option maxHeartbeats 400000 in
theorem s_X6_fee  (σ : zg_S) (hσ : IX σ)  : zk (f_X6_fee  σ) (fun r s => IX s) := by
  unfold f_X6_fee
  have e1 := zt_0
  have e2 := zt_13
  refine zk_call (s_X6_within (σ 155 1) 0 13 σ hσ ) (fun r3 σ4 hp3 => ?_)
  obtain ⟨rfl, x4⟩ := hp3
  refine zk_ite (fun h8 => ?_) (fun h8 => ?_)
  · have g9 := zeq h8
    exact zk_some hσ
  · have g10 := zne h8
    obtain ⟨_d5, _d6, _d7⟩ := x4.resolve_left h8
    have z11 : zin (σ 155 1) 14 = true := zin_mkT (zTs (σ 155 1)) (by omega) (by omega)
    refine zk_in z11 ?_
    refine zk_call (s_X5_workOut (11 + 3 * (Int32.toNatClampNeg (σ 155 1))) (σ 153 10) (σ 153 12) 0 σ hσ (xT (zIn z11).2)) (fun r15 σ16 hp12 => ?_)
    have hS13 := hp12
    exact zk_some hS13
end
section
set_option maxHeartbeats 400000 in
theorem s_X6_feedBytes (a1 : Int32) (σ : zg_S) (hσ : IX σ)  : zk (f_X6_feedBytes a1 σ) (fun r s => IX s) := by
  unfold f_X6_feedBytes
  have e1 := zt_24
  unfold L_X6_feedBytes_3
  refine zl_I (fun (x2 : Int32) (s3_ : zg_S) => IX s3_ ∧ x2.toInt ≤ 24 ∧ -8 ≤ x2.toInt) (fun (x2 : Int32) (s3_ : zg_S) => (x2.toInt + 8).toNat) ?_ zfu 24 σ ⟨hσ, (by omega), (by omega)⟩ (by unfold zfu; omega)
  intro rec3_ x2 s3_ hI2 ih3_
  obtain ⟨hS3, i4, i5⟩ := hI2
  unfold B_X6_feedBytes_3
  refine zk_ite (fun h6 => ?_) (fun h6 => ?_)
  · have g7 := zlt h6
    have e8 := zt_0
    exact zk_some hS3
  · have g9 := znlt h6
    have e10 := zt_0
    refine zk_ite (fun h11 => ?_) (fun h11 => ?_)
    · have g12 := zle h11
      have e13 := zt_96
      have f14 : 0 ≤ (s3_ 0 10).toInt ∧ (s3_ 0 10).toInt ≤ 96 := IXf hS3 xk_0 10
      exact zk_some hS3
    · have g15 := znle h11
      have e16 := zt_96
      have f17 : 0 ≤ (s3_ 0 10).toInt ∧ (s3_ 0 10).toInt ≤ 96 := IXf hS3 xk_0 10
      refine zk_let (fun y7 ey18 => ?_)
      have z19 : zin (s3_ 0 10) 96 = true := zin_mkT (zTs (s3_ 0 10)) (by omega) (by omega)
      refine zk_in z19 ?_
      refine zk_let (fun σ13 q21 => ?_)
      have hS20 : IX σ13 := by rw [q21]; exact IX.up hS3 xk_6 trivial
      have kp22 : σ13 0 10 = s3_ 0 10 := by rw [q21]; exact zkeep xk_6 xk_0 rfl
      refine zk_let (fun σ19 q24 => ?_)
      have g25 := congrArg Int32.toInt (kp22.trans rfl)
      have f26 : 0 ≤ (σ13 0 10).toInt ∧ (σ13 0 10).toInt ≤ 96 := IXf hS20 xk_0 10
      have hS23 : IX σ19 := by rw [q24]; exact IX.up hS20 xk_0 (xconT (zTadd (zTs (σ13 0 10)) (zTl zt_1) (by omega) (by omega)) ⟨by omega, by omega⟩)
      exact ih3_ (x2 + (-8)) σ19 ⟨hS23, (by rw [zTe (zTadd (zTs x2) (zTl zt_m8) (by omega) (by omega))]; omega), (by rw [zTe (zTadd (zTs x2) (zTl zt_m8) (by omega) (by omega))]; omega)⟩ (by show ((x2 + (-8)).toInt + 8).toNat < (x2.toInt + 8).toNat; rw [zTe (zTadd (zTs x2) (zTl zt_m8) (by omega) (by omega))]; omega)

set_option maxHeartbeats 400000 in
theorem s_X6_feed (a1 : Int32) (a2 : Int32) (a3 : Int32) (σ : zg_S) (hσ : IX σ)  : zk (f_X6_feed a1 a2 a3 σ) (fun r s => IX s) := by
  unfold f_X6_feed
  refine zk_ite (fun h1 => ?_) (fun h1 => ?_)
  · have g2 := zle h1
    have f3 : 0 ≤ (σ 0 10).toInt ∧ (σ 0 10).toInt ≤ 96 := IXf hσ xk_0 10
    have e4 := zt_96
    refine zk_call (s_X6_feedBytes a1 σ hσ ) (fun r3 σ4 hp5 => ?_)
    have hS6 := hp5
    refine zk_call (s_X6_feedBytes a2 σ4 hS6 ) (fun r10 σ11 hp7 => ?_)
    have hS8 := hp7
    refine zk_call (s_X6_feedBytes a3 σ11 hS8 ) (fun r17 σ18 hp9 => ?_)
    have hS10 := hp9
    exact zk_some hS10
  · have g11 := znle h1
    have f12 : 0 ≤ (σ 0 10).toInt ∧ (σ 0 10).toInt ≤ 96 := IXf hσ xk_0 10
    have e13 := zt_96
    exact zk_some hσ

set_option maxHeartbeats 400000 in
theorem s_X6_fine (a1 : Int32) (σ : zg_S) (hσ : IX σ)  : zk (f_X6_fine a1 σ) (fun r s => IX s) := by
  unfold f_X6_fine
  refine zk_call (s_X6_isStall a1 σ hσ ) (fun r1 σ2 hp1 => ?_)
  obtain ⟨rfl, x2⟩ := hp1
  have f3 : 0 ≤ (σ 153 3).toInt ∧ (σ 153 3).toInt ≤ 9 := IXf hσ xk_153 3
  refine zk_ite (fun h7 => ?_) (fun h7 => ?_)
  · have g8 := zeq h7
    have e9 := zt_0
    exact zk_some hσ
  · have g10 := zne h7
    have e11 := zt_0
    obtain ⟨_d4, _d5, _d6⟩ := x2.resolve_left h7
    have z12 : zin a1 9 = true := zin_mkT (zTs a1) (by omega) (by omega)
    refine zk_in z12 ?_
    have e13 := zt_13
    refine zk_call (s_X6_within (σ 155 2) 0 13 σ hσ ) (fun r17 σ18 hp14 => ?_)
    obtain ⟨rfl, x15⟩ := hp14
    refine zk_ite (fun h19 => ?_) (fun h19 => ?_)
    · have g20 := zeq h19
      exact zk_some hσ
    · have g21 := zne h19
      obtain ⟨_d16, _d17, _d18⟩ := x15.resolve_left h19
      have z22 : zin (σ 155 2) 14 = true := zin_mkT (zTs (σ 155 2)) (by omega) (by omega)
      refine zk_in z22 ?_
      have e23 := zt_153
      refine zk_call (s_X0_shades 153 (σ (154 + 2 + (Int32.toNatClampNeg a1)) 1) σ hσ xk_153) (fun r29 σ30 hp24 => ?_)
      obtain ⟨rfl, x25⟩ := hp24
      refine zk_ite (fun h26 => ?_) (fun h26 => ?_)
      · have g27 := zeq h26
        refine zk_call (s_X5_workOut (11 + 3 * (Int32.toNatClampNeg (σ 155 2))) (σ (154 + 2 + (Int32.toNatClampNeg a1)) 2) 0 0 σ hσ (xT (zIn z22).2)) (fun r38 σ39 hp28 => ?_)
        have hS29 := hp28
        exact zk_some hS29
      · have g30 := zne h26
        have e31 := zt_1
        refine zk_call (s_X5_workOut (11 + 3 * (Int32.toNatClampNeg (σ 155 2))) (σ (154 + 2 + (Int32.toNatClampNeg a1)) 2) 1 0 σ hσ (xT (zIn z22).2)) (fun r46 σ47 hp32 => ?_)
        have hS33 := hp32
        exact zk_some hS33

set_option maxHeartbeats 400000 in
theorem s_X6_goods (a1 : Int32) (a2 : Int32) (σ : zg_S) (hσ : IX σ)  : zk (f_X6_goods a1 a2 σ) (fun r s => IX s) := by
  unfold f_X6_goods
  refine zk_call (s_X6_isStall a1 σ hσ ) (fun r1 σ2 hp1 => ?_)
  obtain ⟨rfl, x2⟩ := hp1
  have f3 : 0 ≤ (σ 153 3).toInt ∧ (σ 153 3).toInt ≤ 9 := IXf hσ xk_153 3
  refine zk_ite (fun h7 => ?_) (fun h7 => ?_)
  · have g8 := zeq h7
    have e9 := zt_0
    exact zk_some hσ
  · have g10 := zne h7
    have e11 := zt_0
    obtain ⟨_d4, _d5, _d6⟩ := x2.resolve_left h7
    have e12 := zt_100
    refine zk_call (s_X6_within a2 0 100 σ hσ ) (fun r11 σ12 hp13 => ?_)
    obtain ⟨rfl, x14⟩ := hp13
    refine zk_ite (fun h18 => ?_) (fun h18 => ?_)
    · have g19 := zeq h18
      exact zk_some hσ
    · have g20 := zne h18
      obtain ⟨_d15, _d16, _d17⟩ := x14.resolve_left h18
      have e21 := zt_165
      have e22 := zt_153
      refine zk_call (s_X0_takeOver 165 153 σ hσ xk_165 xk_153) (fun r20 σ21 hp23 => ?_)
      have hS24 := hp23
      refine zk_call (s_X6_thinkOn a2 σ21 hS24 (by omega)) (fun r27 σ28 hp25 => ?_)
      have hS26 := hp25
      have z27 : zin a1 9 = true := zin_mkT (zTs a1) (by omega) (by omega)
      refine zk_in z27 ?_
      exact zk_some hS26

set_option maxHeartbeats 400000 in
theorem s_X6_hours (a1 : Int32) (σ : zg_S) (hσ : IX σ)  : zk (f_X6_hours a1 σ) (fun r s => IX s) := by
  unfold f_X6_hours
  have e1 := zt_1
  have e2 := zt_100
  refine zk_call (s_X6_within a1 1 100 σ hσ ) (fun r20 σ21 hp3 => ?_)
  obtain ⟨rfl, x4⟩ := hp3
  refine zk_ite (fun h8 => ?_) (fun h8 => ?_)
  · have g9 := zeq h8
    have e10 := zt_0
    exact zk_some hσ
  · have g11 := zne h8
    have e12 := zt_0
    obtain ⟨_d5, _d6, _d7⟩ := x4.resolve_left h8
    refine zk_let (fun y31 ey13 => ?_)
    have g14 := zmin ey13
    unfold L_X6_hours_40
    refine zl_III (fun (x2 : Int32) (x3 : Int32) (x4 : Int32) (s40_ : zg_S) => IX s40_ ∧ x3.toInt ≤ 100 ∧ 0 ≤ x4.toInt ∧ x4.toInt ≤ 100) (fun (x2 : Int32) (x3 : Int32) (x4 : Int32) (s40_ : zg_S) => (100 - x4.toInt).toNat) ?_ zfu (σ 153 11) y31 0 σ ⟨hσ, (by omega), (by omega), (by omega)⟩ (by unfold zfu; omega)
    intro rec40_ x2 x3 x4 s40_ hI15 ih40_
    obtain ⟨hS16, i17, i18, i19⟩ := hI15
    unfold B_X6_hours_40
    refine zk_ite (fun h20 => ?_) (fun h20 => ?_)
    · have g21 := zle h20
      exact zk_some hS16
    · have g22 := znle h20
      have e23 := zt_153
      refine zk_call (s_X0_hauling 153 s40_ hS16 xk_153) (fun r4 σ5 hp24 => ?_)
      have hS25 := hp24
      refine zk_call (s_X0_passHour 153 r4 σ5 hS25 xk_153) (fun r11 σ12 hp26 => ?_)
      have hS27 := hp26
      exact ih40_ x2 x3 (x4 + 1) σ12 ⟨hS27, (by omega), (by rw [zTe (zTadd (zTs x4) (zTl zt_1) (by omega) (by omega))]; omega), (by rw [zTe (zTadd (zTs x4) (zTl zt_1) (by omega) (by omega))]; omega)⟩ (by show (100 - (x4 + 1).toInt).toNat < (100 - x4.toInt).toNat; rw [zTe (zTadd (zTs x4) (zTl zt_1) (by omega) (by omega))]; omega)

set_option maxHeartbeats 400000 in
theorem s_X6_item (a1 : Int32) (a2 : Int32) (σ : zg_S) (hσ : IX σ)  : zk (f_X6_item a1 a2 σ) (fun r s => σ = s) := by
  unfold f_X6_item
  refine zk_call (s_X6_isSlot a1 σ hσ ) (fun r1 σ2 hp1 => ?_)
  obtain ⟨rfl, x2⟩ := hp1
  refine zk_ite (fun h6 => ?_) (fun h6 => ?_)
  · have g7 := zeq h6
    have e8 := zt_0
    exact zk_some rfl
  · have g9 := zne h6
    have e10 := zt_0
    obtain ⟨_d3, _d4, _d5⟩ := x2.resolve_left h6
    have z11 : zin a1 5 = true := zin_mkT (zTs a1) (by omega) (by omega)
    refine zk_in z11 ?_
    have e12 := zt_2
    refine zk_call (s_X3_refuses (61 + 4 * (Int32.toNatClampNeg a1)) 2 σ hσ (xO (zIn z11).2)) (fun r13 σ14 hp13 => ?_)
    subst hp13
    refine zk_ite (fun h14 => ?_) (fun h14 => ?_)
    · have g15 := zeq h14
      refine zk_call (s_X2_hasPlace ((61 + 4 * (Int32.toNatClampNeg a1)) + 2) a2 σ hσ (xO2 (xO (zIn z11).2))) (fun r26 σ27 hp16 => ?_)
      obtain ⟨rfl, x17⟩ := hp16
      have f18 : 0 ≤ (σ ((61 + 4 * (Int32.toNatClampNeg a1)) + 2) 1).toInt ∧ (σ ((61 + 4 * (Int32.toNatClampNeg a1)) + 2) 1).toInt ≤ 24 := IXf hσ (xO2 (xO (zIn z11).2)) 1
      refine zk_ite (fun h22 => ?_) (fun h22 => ?_)
      · have g23 := zeq h22
        exact zk_some rfl
      · have g24 := zne h22
        obtain ⟨_d19, _d20, _d21⟩ := x17.resolve_left h22
        refine zk_call (s_X2_hasNumber ((61 + 4 * (Int32.toNatClampNeg a1)) + 2) a2 σ hσ (xO2 (xO (zIn z11).2))) (fun r35 σ36 hp25 => ?_)
        obtain ⟨rfl, x26⟩ := hp25
        refine zk_ite (fun h30 => ?_) (fun h30 => ?_)
        · have g31 := zeq h30
          exact zk_some rfl
        · have g32 := zne h30
          obtain ⟨_d27, _d28, _d29⟩ := x26.resolve_left h30
          have z33 : zin a2 24 = true := zin_mkT (zTs a2) (by omega) (by omega)
          refine zk_in z33 ?_
          exact zk_some rfl
    · have g34 := zne h14
      exact zk_some rfl

set_option maxHeartbeats 400000 in
theorem s_X6_keep  (σ : zg_S) (hσ : IX σ)  : zk (f_X6_keep  σ) (fun r s => IX s) := by
  unfold f_X6_keep
  have e1 := zt_177
  have e2 := zt_153
  refine zk_call (s_X0_takeOver 177 153 σ hσ xk_177 xk_153) (fun r1 σ2 hp3 => ?_)
  have hS4 := hp3
  refine zk_let (fun σ8 q6 => ?_)
  have hS5 : IX σ8 := by rw [q6]; exact IX.up hS4 xk_0 trivial
  exact zk_some hS5

set_option maxHeartbeats 400000 in
theorem s_X6_lay (a1 : Int32) (a2 : Int32) (a3 : Int32) (σ : zg_S) (hσ : IX σ)  : zk (f_X6_lay a1 a2 a3 σ) (fun r s => IX s) := by
  unfold f_X6_lay
  refine zk_call (s_X6_isSlot a1 σ hσ ) (fun r7 σ8 hp1 => ?_)
  obtain ⟨rfl, x2⟩ := hp1
  refine zk_ite (fun h6 => ?_) (fun h6 => ?_)
  · have g7 := zeq h6
    have e8 := zt_0
    exact zk_some hσ
  · have g9 := zne h6
    have e10 := zt_0
    obtain ⟨_d3, _d4, _d5⟩ := x2.resolve_left h6
    have e11 := zt_3
    refine zk_call (s_X6_within a2 0 3 σ hσ ) (fun r17 σ18 hp12 => ?_)
    obtain ⟨rfl, x13⟩ := hp12
    refine zk_ite (fun h17 => ?_) (fun h17 => ?_)
    · have g18 := zeq h17
      exact zk_some hσ
    · have g19 := zne h17
      obtain ⟨_d14, _d15, _d16⟩ := x13.resolve_left h17
      have z20 : zin a1 5 = true := zin_mkT (zTs a1) (by omega) (by omega)
      refine zk_in z20 ?_
      refine zk_let (fun y31 ey21 => ?_)
      refine zk_ite (fun h22 => ?_) (fun h22 => ?_)
      · have g23 := zeq h22
        have e24 := zt_1
        refine zk_call (s_X6_isStall a3 σ hσ ) (fun r81 σ82 hp25 => ?_)
        obtain ⟨rfl, x26⟩ := hp25
        have f27 : 0 ≤ (σ 153 3).toInt ∧ (σ 153 3).toInt ≤ 9 := IXf hσ xk_153 3
        refine zk_ite (fun h31 => ?_) (fun h31 => ?_)
        · have g32 := zeq h31
          exact zk_some hσ
        · have g33 := zne h31
          obtain ⟨_d28, _d29, _d30⟩ := x26.resolve_left h31
          have z34 : zin a3 9 = true := zin_mkT (zTs a3) (by omega) (by omega)
          refine zk_in z34 ?_
          refine zk_call (s_X4_takeOver ((61 + 4 * (Int32.toNatClampNeg a1)) + 1) (154 + 2 + (Int32.toNatClampNeg a3)) σ hσ (xO1 (xO (zIn z20).2)) (xS xk_154 (zIn z34).2)) (fun r93 σ94 hp35 => ?_)
          have hS36 := hp35
          unfold B_X6_lay_128
          refine zk_let (fun σ1 q38 => ?_)
          have hS37 : IX σ1 := by rw [q38]; exact IX.up hS36 (xO (zIn z20).2) trivial
          exact zk_some hS37
      · have g39 := zne h22
        have e40 := zt_1
        refine zk_ite (fun h41 => ?_) (fun h41 => ?_)
        · have g42 := zeq h41
          have e43 := zt_2
          refine zk_call (s_X6_isSheet a3 σ hσ ) (fun r50 σ51 hp44 => ?_)
          obtain ⟨rfl, x45⟩ := hp44
          refine zk_ite (fun h49 => ?_) (fun h49 => ?_)
          · have g50 := zeq h49
            exact zk_some hσ
          · have g51 := zne h49
            obtain ⟨_d46, _d47, _d48⟩ := x45.resolve_left h49
            have z52 : zin a3 4 = true := zin_mkT (zTs a3) (by omega) (by omega)
            refine zk_in z52 ?_
            refine zk_call (s_X2_isMissing (53 + 2 * (Int32.toNatClampNeg a3)) σ hσ (xH (zIn z52).2)) (fun r62 σ63 hp53 => ?_)
            obtain ⟨rfl, x54⟩ := hp53
            refine zk_ite (fun h55 => ?_) (fun h55 => ?_)
            · have g56 := zeq h55
              refine zk_call (s_X2_takeOver ((61 + 4 * (Int32.toNatClampNeg a1)) + 2) (53 + 2 * (Int32.toNatClampNeg a3)) σ hσ (xO2 (xO (zIn z20).2)) (xH (zIn z52).2)) (fun r71 σ72 hp57 => ?_)
              have hS58 := hp57
              unfold B_X6_lay_128
              refine zk_let (fun σ1 q60 => ?_)
              have hS59 : IX σ1 := by rw [q60]; exact IX.up hS58 (xO (zIn z20).2) trivial
              exact zk_some hS59
            · have g61 := zne h55
              exact zk_some hσ
        · have g62 := zne h41
          have e63 := zt_2
          refine zk_ite (fun h64 => ?_) (fun h64 => ?_)
          · have g65 := zeq h64
            refine zk_let (fun σ43 q67 => ?_)
            have hS66 : IX σ43 := by rw [q67]; exact IX.up hσ (xO (zIn z20).2) trivial
            unfold B_X6_lay_128
            refine zk_let (fun σ1 q69 => ?_)
            have hS68 : IX σ1 := by rw [q69]; exact IX.up hS66 (xO (zIn z20).2) trivial
            exact zk_some hS68
          · have g70 := zne h64
            unfold B_X6_lay_128
            refine zk_let (fun σ1 q72 => ?_)
            have hS71 : IX σ1 := by rw [q72]; exact IX.up hσ (xO (zIn z20).2) trivial
            exact zk_some hS71
end
section
set_option maxHeartbeats 400000 in
theorem s_X6_mark (a1 : Int32) (a2 : Int32) (a3 : Int32) (σ : zg_S) (hσ : IX σ)  : zk (f_X6_mark a1 a2 a3 σ) (fun r s => IX s) := by
  unfold f_X6_mark
  refine zk_call (s_X6_isSheet a1 σ hσ ) (fun r10 σ11 hp1 => ?_)
  obtain ⟨rfl, x2⟩ := hp1
  refine zk_ite (fun h6 => ?_) (fun h6 => ?_)
  · have g7 := zeq h6
    have e8 := zt_0
    exact zk_some hσ
  · have g9 := zne h6
    have e10 := zt_0
    obtain ⟨_d3, _d4, _d5⟩ := x2.resolve_left h6
    have z11 : zin a1 4 = true := zin_mkT (zTs a1) (by omega) (by omega)
    refine zk_in z11 ?_
    refine zk_call (s_X2_isMissing (53 + 2 * (Int32.toNatClampNeg a1)) σ hσ (xH (zIn z11).2)) (fun r24 σ25 hp12 => ?_)
    obtain ⟨rfl, x13⟩ := hp12
    refine zk_ite (fun h14 => ?_) (fun h14 => ?_)
    · have g15 := zeq h14
      refine zk_call (s_X2_hasPlace (53 + 2 * (Int32.toNatClampNeg a1)) a2 σ hσ (xH (zIn z11).2)) (fun r33 σ34 hp16 => ?_)
      obtain ⟨rfl, x17⟩ := hp16
      have f18 : 0 ≤ (σ (53 + 2 * (Int32.toNatClampNeg a1)) 1).toInt ∧ (σ (53 + 2 * (Int32.toNatClampNeg a1)) 1).toInt ≤ 24 := IXf hσ (xH (zIn z11).2) 1
      refine zk_ite (fun h22 => ?_) (fun h22 => ?_)
      · have g23 := zeq h22
        exact zk_some hσ
      · have g24 := zne h22
        obtain ⟨_d19, _d20, _d21⟩ := x17.resolve_left h22
        refine zk_ite (fun h25 => ?_) (fun h25 => ?_)
        · have g26 := zeq h25
          refine zk_ite (fun h27 => ?_) (fun h27 => ?_)
          · have g28 := zeq h27
            have e29 := zt_m1000000005
            exact zk_some hσ
          · have g30 := zne h27
            have e31 := zt_m1000000005
            have z32 : zin a2 24 = true := zin_mkT (zTs a2) (by omega) (by omega)
            refine zk_in z32 ?_
            refine zk_let (fun σ63 q34 => ?_)
            have hS33 : IX σ63 := by rw [q34]; exact IX.up hσ (xH1 (xH (zIn z11).2)) trivial
            exact zk_some hS33
        · have g35 := zne h25
          refine zk_ite (fun h36 => ?_) (fun h36 => ?_)
          · have g37 := zeq h36
            have e38 := zt_m1000000005
            unfold B_X6_mark_92
            have z39 : zin a2 24 = true := zin_mkT (zTs a2) (by omega) (by omega)
            refine zk_in z39 ?_
            refine zk_let (fun σ4 q41 => ?_)
            have hS40 : IX σ4 := by rw [q41]; exact IX.up hσ (xH1 (xH (zIn z11).2)) trivial
            exact zk_some hS40
          · have g42 := zne h36
            have e43 := zt_m1000000005
            have e44 := zt_m99999
            have e45 := zt_99999
            refine zk_call (s_X6_within a3 (-99999) 99999 σ hσ ) (fun r47 σ48 hp46 => ?_)
            obtain ⟨rfl, x47⟩ := hp46
            refine zk_ite (fun h51 => ?_) (fun h51 => ?_)
            · have g52 := zeq h51
              exact zk_some hσ
            · have g53 := zne h51
              obtain ⟨_d48, _d49, _d50⟩ := x47.resolve_left h51
              unfold B_X6_mark_92
              have z54 : zin a2 24 = true := zin_mkT (zTs a2) (by omega) (by omega)
              refine zk_in z54 ?_
              refine zk_let (fun σ4 q56 => ?_)
              have hS55 : IX σ4 := by rw [q56]; exact IX.up hσ (xH1 (xH (zIn z11).2)) trivial
              exact zk_some hS55
    · have g57 := zne h14
      exact zk_some hσ

set_option maxHeartbeats 400000 in
theorem s_X6_pour (a1 : Int32) (σ : zg_S) (hσ : IX σ)  : zk (f_X6_pour a1 σ) (fun r s => IX s) := by
  unfold f_X6_pour
  refine zk_call (s_X6_isSheet a1 σ hσ ) (fun r45 σ46 hp1 => ?_)
  obtain ⟨rfl, x2⟩ := hp1
  refine zk_ite (fun h6 => ?_) (fun h6 => ?_)
  · have g7 := zeq h6
    have e8 := zt_0
    exact zk_some hσ
  · have g9 := zne h6
    have e10 := zt_0
    obtain ⟨_d3, _d4, _d5⟩ := x2.resolve_left h6
    have z11 : zin a1 4 = true := zin_mkT (zTs a1) (by omega) (by omega)
    refine zk_in z11 ?_
    refine zk_call (s_X2_isMissing (53 + 2 * (Int32.toNatClampNeg a1)) σ hσ (xH (zIn z11).2)) (fun r59 σ60 hp12 => ?_)
    obtain ⟨rfl, x13⟩ := hp12
    refine zk_ite (fun h14 => ?_) (fun h14 => ?_)
    · have g15 := zeq h14
      unfold L_X6_pour_32
      refine zl_NII (fun (q2v : Nat) (x3 : Int32) (x4 : Int32) (s32_ : zg_S) => IX s32_ ∧ XL.2.1 q2v = 2 ∧ 0 ≤ x4.toInt ∧ x4.toInt ≤ 9) (fun (q2v : Nat) (x3 : Int32) (x4 : Int32) (s32_ : zg_S) => (9 - x4.toInt).toNat) ?_ zfu (53 + 2 * (Int32.toNatClampNeg a1)) 0 0 σ ⟨hσ, (xH (zIn z11).2), (by omega), (by omega)⟩ (by unfold zfu; omega)
      intro rec32_ q2v x3 x4 s32_ hI16 ih32_
      obtain ⟨hS17, hk18, i19, i20⟩ := hI16
      unfold B_X6_pour_32
      refine zk_ite (fun h21 => ?_) (fun h21 => ?_)
      · have g22 := zle h21
        have f23 : 0 ≤ (s32_ 153 3).toInt ∧ (s32_ 153 3).toInt ≤ 9 := IXf hS17 xk_153 3
        exact zk_some hS17
      · have g24 := znle h21
        have f25 : 0 ≤ (s32_ 153 3).toInt ∧ (s32_ 153 3).toInt ≤ 9 := IXf hS17 xk_153 3
        refine zk_call (s_X2_hasNumber q2v x4 s32_ hS17 hk18) (fun r17 σ18 hp26 => ?_)
        obtain ⟨rfl, x27⟩ := hp26
        have f28 : 0 ≤ (s32_ q2v 1).toInt ∧ (s32_ q2v 1).toInt ≤ 24 := IXf hS17 hk18 1
        refine zk_ite (fun h32 => ?_) (fun h32 => ?_)
        · have g33 := zeq h32
          have e34 := zt_0
          unfold B_X6_pour_110
          exact ih32_ q2v x3 (x4 + 1) s32_ ⟨hS17, hk18, (by rw [zTe (zTadd (zTs x4) (zTl zt_1) (by omega) (by omega))]; omega), (by rw [zTe (zTadd (zTs x4) (zTl zt_1) (by omega) (by omega))]; omega)⟩ (by show (9 - (x4 + 1).toInt).toNat < (9 - x4.toInt).toNat; rw [zTe (zTadd (zTs x4) (zTl zt_1) (by omega) (by omega))]; omega)
        · have g35 := zne h32
          have e36 := zt_0
          obtain ⟨_d29, _d30, _d31⟩ := x27.resolve_left h32
          have z37 : zin x4 24 = true := zin_mkT (zTs x4) (by omega) (by omega)
          refine zk_in z37 ?_
          have e38 := zt_999
          refine zk_call (s_X6_held (s32_ (q2v + 1) (Int32.toNatClampNeg x4)) 0 999 s32_ hS17 ) (fun r30 σ31 hp39 => ?_)
          obtain ⟨rfl, x40⟩ := hp39
          have z41 : zin x4 9 = true := zin_mkT (zTs x4) (by omega) (by omega)
          refine zk_in z41 ?_
          refine zk_ite (fun h42 => ?_) (fun h42 => ?_)
          · have g43 := zeq h42
            unfold B_X6_pour_93
            refine zk_in z41 ?_
            refine zk_let (fun σ8 q45 => ?_)
            have hS44 : IX σ8 := by rw [q45]; exact IX.up hS17 (xS xk_154 (zIn z41).2) trivial
            unfold B_X6_pour_110
            exact ih32_ q2v (x3 + 0) (x4 + 1) σ8 ⟨hS44, hk18, (by rw [zTe (zTadd (zTs x4) (zTl zt_1) (by omega) (by omega))]; omega), (by rw [zTe (zTadd (zTs x4) (zTl zt_1) (by omega) (by omega))]; omega)⟩ (by show (9 - (x4 + 1).toInt).toNat < (9 - x4.toInt).toNat; rw [zTe (zTadd (zTs x4) (zTl zt_1) (by omega) (by omega))]; omega)
          · have g46 := zne h42
            unfold B_X6_pour_93
            refine zk_in z41 ?_
            refine zk_let (fun σ8 q48 => ?_)
            have hS47 : IX σ8 := by rw [q48]; exact IX.up hS17 (xS xk_154 (zIn z41).2) trivial
            unfold B_X6_pour_110
            exact ih32_ q2v (x3 + 1) (x4 + 1) σ8 ⟨hS47, hk18, (by rw [zTe (zTadd (zTs x4) (zTl zt_1) (by omega) (by omega))]; omega), (by rw [zTe (zTadd (zTs x4) (zTl zt_1) (by omega) (by omega))]; omega)⟩ (by show (9 - (x4 + 1).toInt).toNat < (9 - x4.toInt).toNat; rw [zTe (zTadd (zTs x4) (zTl zt_1) (by omega) (by omega))]; omega)
    · have g49 := zne h14
      exact zk_some hσ

set_option maxHeartbeats 400000 in
theorem s_X6_reads (a1 : Int32) (σ : zg_S) (hσ : IX σ)  : zk (f_X6_reads a1 σ) (fun r s => IX s) := by
  unfold f_X6_reads
  refine zk_call (s_X6_isSheet a1 σ hσ ) (fun r42 σ43 hp1 => ?_)
  obtain ⟨rfl, x2⟩ := hp1
  refine zk_ite (fun h6 => ?_) (fun h6 => ?_)
  · have g7 := zeq h6
    have e8 := zt_0
    exact zk_some hσ
  · have g9 := zne h6
    have e10 := zt_0
    obtain ⟨_d3, _d4, _d5⟩ := x2.resolve_left h6
    have z11 : zin a1 4 = true := zin_mkT (zTs a1) (by omega) (by omega)
    refine zk_in z11 ?_
    refine zk_call (s_X2_isMissing (53 + 2 * (Int32.toNatClampNeg a1)) σ hσ (xH (zIn z11).2)) (fun r56 σ57 hp12 => ?_)
    obtain ⟨rfl, x13⟩ := hp12
    refine zk_ite (fun h14 => ?_) (fun h14 => ?_)
    · have g15 := zeq h14
      unfold L_X6_reads_29
      refine zl_NI (fun (q2v : Nat) (x3 : Int32) (s29_ : zg_S) => IX s29_ ∧ XL.2.1 q2v = 2 ∧ 0 ≤ x3.toInt ∧ x3.toInt ≤ 24) (fun (q2v : Nat) (x3 : Int32) (s29_ : zg_S) => (24 - x3.toInt).toNat) ?_ zfu (53 + 2 * (Int32.toNatClampNeg a1)) 0 σ ⟨hσ, (xH (zIn z11).2), (by omega), (by omega)⟩ (by unfold zfu; omega)
      intro rec29_ q2v x3 s29_ hI16 ih29_
      obtain ⟨hS17, hk18, i19, i20⟩ := hI16
      unfold B_X6_reads_29
      refine zk_ite (fun h21 => ?_) (fun h21 => ?_)
      · have g22 := zle h21
        have f23 : 0 ≤ (s29_ q2v 1).toInt ∧ (s29_ q2v 1).toInt ≤ 24 := IXf hS17 hk18 1
        exact zk_some hS17
      · have g24 := znle h21
        have f25 : 0 ≤ (s29_ q2v 1).toInt ∧ (s29_ q2v 1).toInt ≤ 24 := IXf hS17 hk18 1
        refine zk_call (s_X2_hasNumber q2v x3 s29_ hS17 hk18) (fun r6 σ7 hp26 => ?_)
        obtain ⟨rfl, x27⟩ := hp26
        refine zk_ite (fun h31 => ?_) (fun h31 => ?_)
        · have g32 := zeq h31
          have e33 := zt_0
          unfold B_X6_reads_80
          exact ih29_ q2v (x3 + 1) s29_ ⟨hS17, hk18, (by rw [zTe (zTadd (zTs x3) (zTl zt_1) (by omega) (by omega))]; omega), (by rw [zTe (zTadd (zTs x3) (zTl zt_1) (by omega) (by omega))]; omega)⟩ (by show (24 - (x3 + 1).toInt).toNat < (24 - x3.toInt).toNat; rw [zTe (zTadd (zTs x3) (zTl zt_1) (by omega) (by omega))]; omega)
        · have g34 := zne h31
          have e35 := zt_0
          obtain ⟨_d28, _d29, _d30⟩ := x27.resolve_left h31
          refine zk_call (s_X6_isStall x3 s29_ hS17 ) (fun r16 σ17 hp36 => ?_)
          obtain ⟨rfl, x37⟩ := hp36
          have f38 : 0 ≤ (s29_ 153 3).toInt ∧ (s29_ 153 3).toInt ≤ 9 := IXf hS17 xk_153 3
          refine zk_ite (fun h42 => ?_) (fun h42 => ?_)
          · have g43 := zeq h42
            exact zk_some hS17
          · have g44 := zne h42
            obtain ⟨_d39, _d40, _d41⟩ := x37.resolve_left h42
            have z45 : zin x3 24 = true := zin_mkT (zTs x3) (by omega) (by omega)
            refine zk_in z45 ?_
            have z46 : zin x3 9 = true := zin_mkT (zTs x3) (by omega) (by omega)
            refine zk_in z46 ?_
            have e47 := zt_153
            refine zk_call (s_X0_lossOf 153 (154 + 2 + (Int32.toNatClampNeg x3)) s29_ hS17 xk_153 (xS xk_154 (zIn z46).2)) (fun r32 σ33 hp48 => ?_)
            have hS49 := hp48
            refine zk_ite (fun h50 => ?_) (fun h50 => ?_)
            · have g51 := zeq h50
              unfold B_X6_reads_80
              exact ih29_ q2v (x3 + 1) σ33 ⟨hS49, hk18, (by rw [zTe (zTadd (zTs x3) (zTl zt_1) (by omega) (by omega))]; omega), (by rw [zTe (zTadd (zTs x3) (zTl zt_1) (by omega) (by omega))]; omega)⟩ (by show (24 - (x3 + 1).toInt).toNat < (24 - x3.toInt).toNat; rw [zTe (zTadd (zTs x3) (zTl zt_1) (by omega) (by omega))]; omega)
            · have g52 := zne h50
              exact zk_some hS49
    · have g53 := zne h14
      exact zk_some hσ

set_option maxHeartbeats 400000 in
theorem s_X6_rest (a1 : Int32) (a2 : Int32) (σ : zg_S) (hσ : IX σ)  : zk (f_X6_rest a1 a2 σ) (fun r s => σ = s) := by
  unfold f_X6_rest
  refine zk_call (s_X6_isSlot a1 σ hσ ) (fun r1 σ2 hp1 => ?_)
  obtain ⟨rfl, x2⟩ := hp1
  refine zk_ite (fun h6 => ?_) (fun h6 => ?_)
  · have g7 := zeq h6
    have e8 := zt_0
    exact zk_some rfl
  · have g9 := zne h6
    have e10 := zt_0
    obtain ⟨_d3, _d4, _d5⟩ := x2.resolve_left h6
    have z11 : zin a1 5 = true := zin_mkT (zTs a1) (by omega) (by omega)
    refine zk_in z11 ?_
    have e12 := zt_3
    refine zk_call (s_X3_refuses (61 + 4 * (Int32.toNatClampNeg a1)) 3 σ hσ (xO (zIn z11).2)) (fun r13 σ14 hp13 => ?_)
    subst hp13
    refine zk_ite (fun h14 => ?_) (fun h14 => ?_)
    · have g15 := zeq h14
      refine zk_ite (fun h16 => ?_) (fun h16 => ?_)
      · have g17 := zeq h16
        exact zk_some rfl
      · have g18 := zne h16
        refine zk_nz (by first | assumption | omega) ?_
        exact zk_some rfl
    · have g19 := zne h14
      exact zk_some rfl

set_option maxHeartbeats 400000 in
theorem s_X6_ruleFirst (a1 : Int32) (σ : zg_S) (hσ : IX σ)  : zk (f_X6_ruleFirst a1 σ) (fun r s => IX s) := by
  unfold f_X6_ruleFirst
  have e1 := zt_153
  refine zk_call (s_X0_lastFirst 153 σ hσ xk_153) (fun r1 σ2 hp2 => ?_)
  subst hp2
  have e3 := zt_0
  refine zk_call (s_X6_within a1 0 r1 σ hσ ) (fun r8 σ9 hp4 => ?_)
  obtain ⟨rfl, x5⟩ := hp4
  refine zk_ite (fun h9 => ?_) (fun h9 => ?_)
  · have g10 := zeq h9
    exact zk_some hσ
  · have g11 := zne h9
    obtain ⟨_d6, _d7, _d8⟩ := x5.resolve_left h9
    refine zk_let (fun σ19 q13 => ?_)
    have hS12 : IX σ19 := by rw [q13]; exact IX.up hσ xk_153 trivial
    exact zk_some hS12

set_option maxHeartbeats 400000 in
theorem s_X6_ruleWidth (a1 : Int32) (σ : zg_S) (hσ : IX σ)  : zk (f_X6_ruleWidth a1 σ) (fun r s => IX s) := by
  unfold f_X6_ruleWidth
  have e1 := zt_1
  have e2 := zt_6
  refine zk_call (s_X6_within a1 1 6 σ hσ ) (fun r1 σ2 hp3 => ?_)
  obtain ⟨rfl, x4⟩ := hp3
  refine zk_ite (fun h8 => ?_) (fun h8 => ?_)
  · have g9 := zeq h8
    have e10 := zt_0
    exact zk_some hσ
  · have g11 := zne h8
    have e12 := zt_0
    obtain ⟨_d5, _d6, _d7⟩ := x4.resolve_left h8
    have e13 := zt_153
    refine zk_call (s_X0_widen 153 a1 σ hσ xk_153) (fun r12 σ13 hp14 => ?_)
    have hS15 := hp14
    exact zk_some hS15

set_option maxHeartbeats 400000 in
theorem s_X6_ruleGust (a1 : Int32) (σ : zg_S) (hσ : IX σ)  : zk (f_X6_ruleGust a1 σ) (fun r s => IX s) := by
  unfold f_X6_ruleGust
  have e1 := zt_0
  have e2 := zt_100
  refine zk_call (s_X6_within a1 0 100 σ hσ ) (fun r1 σ2 hp3 => ?_)
  obtain ⟨rfl, x4⟩ := hp3
  refine zk_ite (fun h8 => ?_) (fun h8 => ?_)
  · have g9 := zeq h8
    exact zk_some hσ
  · have g10 := zne h8
    obtain ⟨_d5, _d6, _d7⟩ := x4.resolve_left h8
    refine zk_let (fun σ12 q12 => ?_)
    have hS11 : IX σ12 := by rw [q12]; exact IX.up hσ xk_153 trivial
    exact zk_some hS11

set_option maxHeartbeats 400000 in
theorem s_X6_ruleMode (a1 : Int32) (σ : zg_S) (hσ : IX σ)  : zk (f_X6_ruleMode a1 σ) (fun r s => IX s) := by
  unfold f_X6_ruleMode
  have e1 := zt_0
  have e2 := zt_2
  refine zk_call (s_X6_within a1 0 2 σ hσ ) (fun r1 σ2 hp3 => ?_)
  obtain ⟨rfl, x4⟩ := hp3
  refine zk_ite (fun h8 => ?_) (fun h8 => ?_)
  · have g9 := zeq h8
    exact zk_some hσ
  · have g10 := zne h8
    obtain ⟨_d5, _d6, _d7⟩ := x4.resolve_left h8
    refine zk_let (fun σ12 q12 => ?_)
    have hS11 : IX σ12 := by rw [q12]; exact IX.up hσ xk_153 trivial
    exact zk_some hS11

set_option maxHeartbeats 400000 in
theorem s_X6_rule (a1 : Int32) (a2 : Int32) (σ : zg_S) (hσ : IX σ)  : zk (f_X6_rule a1 a2 σ) (fun r s => IX s) := by
  unfold f_X6_rule
  refine zk_ite (fun h1 => ?_) (fun h1 => ?_)
  · have g2 := zeq h1
    have e3 := zt_0
    refine zk_call (s_X6_ruleFirst a2 σ hσ ) (fun r3 σ4 hp4 => ?_)
    have hS5 := hp4
    exact zk_some hS5
  · have g6 := zne h1
    have e7 := zt_0
    refine zk_ite (fun h8 => ?_) (fun h8 => ?_)
    · have g9 := zeq h8
      have e10 := zt_1
      refine zk_call (s_X6_ruleWidth a2 σ hσ ) (fun r13 σ14 hp11 => ?_)
      have hS12 := hp11
      exact zk_some hS12
    · have g13 := zne h8
      have e14 := zt_1
      refine zk_ite (fun h15 => ?_) (fun h15 => ?_)
      · have g16 := zeq h15
        have e17 := zt_2
        refine zk_call (s_X6_ruleGust a2 σ hσ ) (fun r23 σ24 hp18 => ?_)
        have hS19 := hp18
        exact zk_some hS19
      · have g20 := zne h15
        have e21 := zt_2
        refine zk_ite (fun h22 => ?_) (fun h22 => ?_)
        · have g23 := zeq h22
          have e24 := zt_3
          refine zk_call (s_X6_ruleMode a2 σ hσ ) (fun r33 σ34 hp25 => ?_)
          have hS26 := hp25
          exact zk_some hS26
        · have g27 := zne h22
          have e28 := zt_3
          exact zk_some hσ
end
section
set_option maxHeartbeats 400000 in
theorem s_X6_seed (a1 : Int32) (σ : zg_S) (hσ : IX σ)  : zk (f_X6_seed a1 σ) (fun r s => IX s) := by
  unfold f_X6_seed
  refine zk_let (fun σ3 q2 => ?_)
  have hS1 : IX σ3 := by rw [q2]; exact IX.up hσ xk_153 trivial
  exact zk_some hS1

set_option maxHeartbeats 400000 in
theorem s_X6_setPlace (q0 : Nat) (a1 : Int32) (σ : zg_S) (hσ : IX σ) (hq0 : XL.2.1 q0 = 4) : zk (f_X6_setPlace q0 a1 σ) (fun r s => IX s) := by
  unfold f_X6_setPlace
  have e1 := zt_0
  have e2 := zt_11
  refine zk_call (s_X6_within a1 0 11 σ hσ ) (fun r1 σ2 hp3 => ?_)
  obtain ⟨rfl, x4⟩ := hp3
  refine zk_ite (fun h8 => ?_) (fun h8 => ?_)
  · have g9 := zeq h8
    exact zk_some hσ
  · have g10 := zne h8
    obtain ⟨_d5, _d6, _d7⟩ := x4.resolve_left h8
    refine zk_let (fun σ12 q12 => ?_)
    have hS11 : IX σ12 := by rw [q12]; exact IX.up hσ hq0 trivial
    exact zk_some hS11

set_option maxHeartbeats 400000 in
theorem s_X6_setGoods (q0 : Nat) (a1 : Int32) (σ : zg_S) (hσ : IX σ) (hq0 : XL.2.1 q0 = 4) : zk (f_X6_setGoods q0 a1 σ) (fun r s => IX s) := by
  unfold f_X6_setGoods
  have e1 := zt_0
  have e2 := zt_999
  refine zk_call (s_X6_within a1 0 999 σ hσ ) (fun r1 σ2 hp3 => ?_)
  obtain ⟨rfl, x4⟩ := hp3
  refine zk_ite (fun h8 => ?_) (fun h8 => ?_)
  · have g9 := zeq h8
    exact zk_some hσ
  · have g10 := zne h8
    obtain ⟨_d5, _d6, _d7⟩ := x4.resolve_left h8
    refine zk_let (fun σ12 q12 => ?_)
    have hS11 : IX σ12 := by rw [q12]; exact IX.up hσ hq0 trivial
    exact zk_some hS11

set_option maxHeartbeats 400000 in
theorem s_X6_setPay (q0 : Nat) (a1 : Int32) (σ : zg_S) (hσ : IX σ) (hq0 : XL.2.1 q0 = 4) : zk (f_X6_setPay q0 a1 σ) (fun r s => IX s) := by
  unfold f_X6_setPay
  have e1 := zt_0
  have e2 := zt_99
  refine zk_call (s_X6_within a1 0 99 σ hσ ) (fun r1 σ2 hp3 => ?_)
  obtain ⟨rfl, x4⟩ := hp3
  refine zk_ite (fun h8 => ?_) (fun h8 => ?_)
  · have g9 := zeq h8
    exact zk_some hσ
  · have g10 := zne h8
    obtain ⟨_d5, _d6, _d7⟩ := x4.resolve_left h8
    refine zk_let (fun σ12 q12 => ?_)
    have hS11 : IX σ12 := by rw [q12]; exact IX.up hσ hq0 trivial
    exact zk_some hS11

set_option maxHeartbeats 400000 in
theorem s_X6_set (a1 : Int32) (a2 : Int32) (a3 : Int32) (σ : zg_S) (hσ : IX σ)  : zk (f_X6_set a1 a2 a3 σ) (fun r s => IX s) := by
  unfold f_X6_set
  refine zk_call (s_X6_isStall a1 σ hσ ) (fun r1 σ2 hp1 => ?_)
  obtain ⟨rfl, x2⟩ := hp1
  have f3 : 0 ≤ (σ 153 3).toInt ∧ (σ 153 3).toInt ≤ 9 := IXf hσ xk_153 3
  refine zk_ite (fun h7 => ?_) (fun h7 => ?_)
  · have g8 := zeq h7
    have e9 := zt_0
    exact zk_some hσ
  · have g10 := zne h7
    have e11 := zt_0
    obtain ⟨_d4, _d5, _d6⟩ := x2.resolve_left h7
    refine zk_ite (fun h12 => ?_) (fun h12 => ?_)
    · have g13 := zeq h12
      have e14 := zt_1
      have z15 : zin a1 9 = true := zin_mkT (zTs a1) (by omega) (by omega)
      refine zk_in z15 ?_
      refine zk_call (s_X6_setPlace (154 + 2 + (Int32.toNatClampNeg a1)) a3 σ hσ (xS xk_154 (zIn z15).2)) (fun r15 σ16 hp16 => ?_)
      have hS17 := hp16
      exact zk_some hS17
    · have g18 := zne h12
      have e19 := zt_1
      refine zk_ite (fun h20 => ?_) (fun h20 => ?_)
      · have g21 := zeq h20
        have e22 := zt_2
        have z23 : zin a1 9 = true := zin_mkT (zTs a1) (by omega) (by omega)
        refine zk_in z23 ?_
        refine zk_call (s_X6_setGoods (154 + 2 + (Int32.toNatClampNeg a1)) a3 σ hσ (xS xk_154 (zIn z23).2)) (fun r28 σ29 hp24 => ?_)
        have hS25 := hp24
        exact zk_some hS25
      · have g26 := zne h20
        have e27 := zt_2
        refine zk_ite (fun h28 => ?_) (fun h28 => ?_)
        · have g29 := zeq h28
          have e30 := zt_3
          have z31 : zin a1 9 = true := zin_mkT (zTs a1) (by omega) (by omega)
          refine zk_in z31 ?_
          refine zk_call (s_X6_setPay (154 + 2 + (Int32.toNatClampNeg a1)) a3 σ hσ (xS xk_154 (zIn z31).2)) (fun r41 σ42 hp32 => ?_)
          have hS33 := hp32
          exact zk_some hS33
        · have g34 := zne h28
          have e35 := zt_3
          exact zk_some hσ

set_option maxHeartbeats 400000 in
theorem s_X6_shaded (a1 : Int32) (a2 : Int32) (σ : zg_S) (hσ : IX σ)  : zk (f_X6_shaded a1 a2 σ) (fun r s => IX s) := by
  unfold f_X6_shaded
  refine zk_call (s_X6_isStall a1 σ hσ ) (fun r41 σ42 hp1 => ?_)
  obtain ⟨rfl, x2⟩ := hp1
  have f3 : 0 ≤ (σ 153 3).toInt ∧ (σ 153 3).toInt ≤ 9 := IXf hσ xk_153 3
  refine zk_ite (fun h7 => ?_) (fun h7 => ?_)
  · have g8 := zeq h7
    have e9 := zt_0
    exact zk_some hσ
  · have g10 := zne h7
    have e11 := zt_0
    obtain ⟨_d4, _d5, _d6⟩ := x2.resolve_left h7
    have e12 := zt_1
    have e13 := zt_60
    refine zk_call (s_X6_within a2 1 60 σ hσ ) (fun r51 σ52 hp14 => ?_)
    obtain ⟨rfl, x15⟩ := hp14
    refine zk_ite (fun h19 => ?_) (fun h19 => ?_)
    · have g20 := zeq h19
      exact zk_some hσ
    · have g21 := zne h19
      obtain ⟨_d16, _d17, _d18⟩ := x15.resolve_left h19
      have e22 := zt_165
      have e23 := zt_153
      refine zk_call (s_X0_takeOver 165 153 σ hσ xk_165 xk_153) (fun r60 σ61 hp24 => ?_)
      have hS25 := hp24
      have z26 : zin a1 9 = true := zin_mkT (zTs a1) (by omega) (by omega)
      refine zk_in z26 ?_
      refine zk_let (fun y70 ey27 => ?_)
      unfold L_X6_shaded_51
      refine zl_III (fun (x3 : Int32) (x4 : Int32) (x5 : Int32) (s51_ : zg_S) => IX s51_ ∧ 0 ≤ x5.toInt ∧ x5.toInt ≤ 60) (fun (x3 : Int32) (x4 : Int32) (x5 : Int32) (s51_ : zg_S) => (60 - x5.toInt).toNat) ?_ zfu y70 0 0 σ61 ⟨hS25, (by omega), (by omega)⟩ (by unfold zfu; omega)
      intro rec51_ x3 x4 x5 s51_ hI28 ih51_
      obtain ⟨hS29, i30, i31⟩ := hI28
      unfold B_X6_shaded_51
      refine zk_ite (fun h32 => ?_) (fun h32 => ?_)
      · have g33 := zle h32
        exact zk_some hS29
      · have g34 := znle h32
        have e35 := zt_165
        refine zk_call (s_X0_hauling 165 s51_ hS29 xk_165) (fun r13 σ14 hp36 => ?_)
        have hS37 := hp36
        refine zk_call (s_X0_hauledTo 165 r13 σ14 hS37 xk_165) (fun r22 σ23 hp38 => ?_)
        subst hp38
        refine zk_call (s_X0_wouldShade 165 r22 x3 σ14 hS37 xk_165) (fun r29 σ30 hp39 => ?_)
        obtain ⟨rfl, x40⟩ := hp39
        refine zk_ite (fun h41 => ?_) (fun h41 => ?_)
        · have g42 := zeq h41
          have e43 := zt_0
          unfold B_X6_shaded_89
          refine zk_call (s_X0_passHour 165 r13 σ14 hS37 xk_165) (fun r1 σ2 hp44 => ?_)
          have hS45 := hp44
          exact ih51_ x3 x4 (x5 + 1) σ2 ⟨hS45, (by rw [zTe (zTadd (zTs x5) (zTl zt_1) (by omega) (by omega))]; omega), (by rw [zTe (zTadd (zTs x5) (zTl zt_1) (by omega) (by omega))]; omega)⟩ (by show (60 - (x5 + 1).toInt).toNat < (60 - x5.toInt).toNat; rw [zTe (zTadd (zTs x5) (zTl zt_1) (by omega) (by omega))]; omega)
        · have g46 := zne h41
          have e47 := zt_0
          unfold B_X6_shaded_89
          refine zk_call (s_X0_passHour 165 r13 σ14 hS37 xk_165) (fun r1 σ2 hp48 => ?_)
          have hS49 := hp48
          exact ih51_ x3 (x4 + 1) (x5 + 1) σ2 ⟨hS49, (by rw [zTe (zTadd (zTs x5) (zTl zt_1) (by omega) (by omega))]; omega), (by rw [zTe (zTadd (zTs x5) (zTl zt_1) (by omega) (by omega))]; omega)⟩ (by show (60 - (x5 + 1).toInt).toNat < (60 - x5.toInt).toNat; rw [zTe (zTadd (zTs x5) (zTl zt_1) (by omega) (by omega))]; omega)

set_option maxHeartbeats 400000 in
theorem s_X6_sheet (a1 : Int32) (a2 : Int32) (a3 : Int32) (σ : zg_S) (hσ : IX σ)  : zk (f_X6_sheet a1 a2 a3 σ) (fun r s => IX s) := by
  unfold f_X6_sheet
  refine zk_call (s_X6_isSheet a1 σ hσ ) (fun r1 σ2 hp1 => ?_)
  obtain ⟨rfl, x2⟩ := hp1
  refine zk_ite (fun h6 => ?_) (fun h6 => ?_)
  · have g7 := zeq h6
    have e8 := zt_0
    exact zk_some hσ
  · have g9 := zne h6
    have e10 := zt_0
    obtain ⟨_d3, _d4, _d5⟩ := x2.resolve_left h6
    have e11 := zt_m1
    have e12 := zt_1
    refine zk_call (s_X6_within a2 (-1) 1 σ hσ ) (fun r11 σ12 hp13 => ?_)
    obtain ⟨rfl, x14⟩ := hp13
    refine zk_ite (fun h18 => ?_) (fun h18 => ?_)
    · have g19 := zeq h18
      exact zk_some hσ
    · have g20 := zne h18
      obtain ⟨_d15, _d16, _d17⟩ := x14.resolve_left h18
      refine zk_ite (fun h21 => ?_) (fun h21 => ?_)
      · have g22 := zeq h21
        have z23 : zin a1 4 = true := zin_mkT (zTs a1) (by omega) (by omega)
        refine zk_in z23 ?_
        refine zk_call (s_X2_become (53 + 2 * (Int32.toNatClampNeg a1)) (-1) 0 σ hσ (xH (zIn z23).2)) (fun r42 σ43 hp24 => ?_)
        have hS25 := hp24
        exact zk_some hS25
      · have g26 := zne h21
        refine zk_ite (fun h27 => ?_) (fun h27 => ?_)
        · have g28 := zle h27
          have e29 := zt_24
          refine zk_ite (fun h30 => ?_) (fun h30 => ?_)
          · have g31 := zle h30
            have z32 : zin a1 4 = true := zin_mkT (zTs a1) (by omega) (by omega)
            refine zk_in z32 ?_
            refine zk_call (s_X2_become (53 + 2 * (Int32.toNatClampNeg a1)) a2 a3 σ hσ (xH (zIn z32).2)) (fun r29 σ30 hp33 => ?_)
            have hS34 := hp33
            exact zk_some hS34
          · have g35 := znle h30
            exact zk_some hσ
        · have g36 := znle h27
          have e37 := zt_24
          exact zk_some hσ

set_option maxHeartbeats 400000 in
theorem s_X6_stall (a1 : Int32) (a2 : Int32) (a3 : Int32) (σ : zg_S) (hσ : IX σ)  : zk (f_X6_stall a1 a2 a3 σ) (fun r s => IX s) := by
  unfold f_X6_stall
  have e1 := zt_0
  have e2 := zt_5
  refine zk_call (s_X6_within a1 0 5 σ hσ ) (fun r1 σ2 hp3 => ?_)
  obtain ⟨rfl, x4⟩ := hp3
  refine zk_ite (fun h8 => ?_) (fun h8 => ?_)
  · have g9 := zeq h8
    exact zk_some hσ
  · have g10 := zne h8
    obtain ⟨_d5, _d6, _d7⟩ := x4.resolve_left h8
    have e11 := zt_11
    refine zk_call (s_X6_within a2 0 11 σ hσ ) (fun r11 σ12 hp12 => ?_)
    obtain ⟨rfl, x13⟩ := hp12
    refine zk_ite (fun h17 => ?_) (fun h17 => ?_)
    · have g18 := zeq h17
      exact zk_some hσ
    · have g19 := zne h17
      obtain ⟨_d14, _d15, _d16⟩ := x13.resolve_left h17
      have e20 := zt_99
      refine zk_call (s_X6_within a3 0 99 σ hσ ) (fun r21 σ22 hp21 => ?_)
      obtain ⟨rfl, x22⟩ := hp21
      refine zk_ite (fun h26 => ?_) (fun h26 => ?_)
      · have g27 := zeq h26
        exact zk_some hσ
      · have g28 := zne h26
        obtain ⟨_d23, _d24, _d25⟩ := x22.resolve_left h26
        refine zk_ite (fun h29 => ?_) (fun h29 => ?_)
        · have g30 := zlt h29
          have f31 : 0 ≤ (σ 153 3).toInt ∧ (σ 153 3).toInt ≤ 9 := IXf hσ xk_153 3
          have e32 := zt_9
          have e33 := zt_153
          refine zk_call (s_X0_open 153 a1 a2 a3 σ hσ xk_153) (fun r32 σ33 hp34 => ?_)
          have hS35 := hp34
          exact zk_some hS35
        · have g36 := znlt h29
          have f37 : 0 ≤ (σ 153 3).toInt ∧ (σ 153 3).toInt ≤ 9 := IXf hσ xk_153 3
          have e38 := zt_9
          exact zk_some hσ

set_option maxHeartbeats 400000 in
theorem s_X6_tell (a1 : Int32) (σ : zg_S) (hσ : IX σ)  : zk (f_X6_tell a1 σ) (fun r s => IX s) := by
  unfold f_X6_tell
  refine zk_ite (fun h1 => ?_) (fun h1 => ?_)
  · have g2 := zlt h1
    have f3 : 0 ≤ (σ 0 11).toInt ∧ (σ 0 11).toInt ≤ 60 := IXf hσ xk_0 11
    have e4 := zt_60
    have z5 : zin (σ 0 11) 60 = true := zin_mkT (zTs (σ 0 11)) (by omega) (by omega)
    refine zk_in z5 ?_
    refine zk_let (fun σ6 q7 => ?_)
    have hS6 : IX σ6 := by rw [q7]; exact IX.up hσ xk_5 trivial
    have kp8 : σ6 0 11 = σ 0 11 := by rw [q7]; exact zkeep xk_5 xk_0 rfl
    refine zk_let (fun σ12 q10 => ?_)
    have g11 := congrArg Int32.toInt (kp8.trans rfl)
    have f12 : 0 ≤ (σ6 0 11).toInt ∧ (σ6 0 11).toInt ≤ 60 := IXf hS6 xk_0 11
    have hS9 : IX σ12 := by rw [q10]; exact IX.up hS6 xk_0 (xconT (zTadd (zTs (σ6 0 11)) (zTl zt_1) (by omega) (by omega)) ⟨by omega, by omega⟩)
    exact zk_some hS9
  · have g13 := znlt h1
    have f14 : 0 ≤ (σ 0 11).toInt ∧ (σ 0 11).toInt ≤ 60 := IXf hσ xk_0 11
    have e15 := zt_60
    exact zk_some hσ

set_option maxHeartbeats 400000 in
theorem s_X6_text  (σ : zg_S) (hσ : IX σ)  : zk (f_X6_text  σ) (fun r s => IX s) := by
  unfold f_X6_text
  refine zk_call (s_X1_readText (σ 0 10) σ hσ ) (fun r1 σ2 hp1 => ?_)
  have hS2 := hp1
  have f3 : 0 ≤ (σ 0 10).toInt ∧ (σ 0 10).toInt ≤ 96 := IXf hσ xk_0 10
  refine zk_let (fun σ10 q5 => ?_)
  have hS4 : IX σ10 := by rw [q5]; exact IX.up hS2 xk_0 (xconT (zTl zt_0) ⟨by omega, by omega⟩)
  refine zk_ite (fun h6 => ?_) (fun h6 => ?_)
  · have g7 := zeq h6
    have e8 := zt_m1000000005
    refine zk_ite (fun h9 => ?_) (fun h9 => ?_)
    · have g10 := zlt h9
      have f11 : 0 ≤ (σ10 153 4).toInt ∧ (σ10 153 4).toInt ≤ 14 := IXf hS4 xk_153 4
      have e12 := zt_14
      have e13 := zt_153
      have e14 := zt_8
      refine zk_call (s_X0_enact 153 8 σ10 hS4 xk_153 xk_8) (fun r20 σ21 hp15 => ?_)
      have hS16 := hp15
      exact zk_some hS16
    · have g17 := znlt h9
      have f18 : 0 ≤ (σ10 153 4).toInt ∧ (σ10 153 4).toInt ≤ 14 := IXf hS4 xk_153 4
      have e19 := zt_14
      exact zk_some hS4
  · have g20 := zne h6
    have e21 := zt_m1000000005
    exact zk_some hS4

set_option maxHeartbeats 400000 in
theorem s_X6_textTold (a1 : Int32) (a2 : Int32) (σ : zg_S) (hσ : IX σ)  : zk (f_X6_textTold a1 a2 σ) (fun r s => σ = s) := by
  unfold f_X6_textTold
  have e1 := zt_0
  refine zk_call (s_X6_within a1 0 ((σ 153 4) - 1) σ hσ ) (fun r1 σ2 hp2 => ?_)
  obtain ⟨rfl, x3⟩ := hp2
  have f4 : 0 ≤ (σ 153 4).toInt ∧ (σ 153 4).toInt ≤ 14 := IXf hσ xk_153 4
  have e8 := zt_1
  have e9 := zsub (σ 153 4) 1 (by omega) (by omega)
  refine zk_ite (fun h10 => ?_) (fun h10 => ?_)
  · have g11 := zeq h10
    exact zk_some rfl
  · have g12 := zne h10
    obtain ⟨_d5, _d6, _d7⟩ := x3.resolve_left h10
    refine zk_ite (fun h13 => ?_) (fun h13 => ?_)
    · have g14 := zeq h13
      have z15 : zin a1 14 = true := zin_mkT (zTs a1) (by omega) (by omega)
      refine zk_in z15 ?_
      exact zk_some rfl
    · have g16 := zne h13
      refine zk_ite (fun h17 => ?_) (fun h17 => ?_)
      · have g18 := zeq h17
        have z19 : zin a1 14 = true := zin_mkT (zTs a1) (by omega) (by omega)
        refine zk_in z19 ?_
        exact zk_some rfl
      · have g20 := zne h17
        exact zk_some rfl
end
section
set_option maxHeartbeats 400000 in
theorem s_X6_told (a1 : Int32) (a2 : Int32) (σ : zg_S) (hσ : IX σ)  : zk (f_X6_told a1 a2 σ) (fun r s => IX s) := by
  unfold f_X6_told
  refine zk_call (s_X6_isStall a1 σ hσ ) (fun r1 σ2 hp1 => ?_)
  obtain ⟨rfl, x2⟩ := hp1
  have f3 : 0 ≤ (σ 153 3).toInt ∧ (σ 153 3).toInt ≤ 9 := IXf hσ xk_153 3
  refine zk_ite (fun h7 => ?_) (fun h7 => ?_)
  · have g8 := zeq h7
    have e9 := zt_0
    exact zk_some hσ
  · have g10 := zne h7
    have e11 := zt_0
    obtain ⟨_d4, _d5, _d6⟩ := x2.resolve_left h7
    have z12 : zin a1 9 = true := zin_mkT (zTs a1) (by omega) (by omega)
    refine zk_in z12 ?_
    refine zk_ite (fun h13 => ?_) (fun h13 => ?_)
    · have g14 := zeq h13
      exact zk_some hσ
    · have g15 := zne h13
      refine zk_ite (fun h16 => ?_) (fun h16 => ?_)
      · have g17 := zeq h16
        have e18 := zt_1
        exact zk_some hσ
      · have g19 := zne h16
        have e20 := zt_1
        refine zk_ite (fun h21 => ?_) (fun h21 => ?_)
        · have g22 := zeq h21
          have e23 := zt_2
          exact zk_some hσ
        · have g24 := zne h21
          have e25 := zt_2
          refine zk_ite (fun h26 => ?_) (fun h26 => ?_)
          · have g27 := zeq h26
            have e28 := zt_3
            exact zk_some hσ
          · have g29 := zne h26
            have e30 := zt_3
            refine zk_ite (fun h31 => ?_) (fun h31 => ?_)
            · have g32 := zeq h31
              have e33 := zt_4
              have e34 := zt_153
              refine zk_call (s_X0_lossOf 153 (154 + 2 + (Int32.toNatClampNeg a1)) σ hσ xk_153 (xS xk_154 (zIn z12).2)) (fun r29 σ30 hp35 => ?_)
              have hS36 := hp35
              exact zk_some hS36
            · have g37 := zne h31
              have e38 := zt_4
              refine zk_ite (fun h39 => ?_) (fun h39 => ?_)
              · have g40 := zeq h39
                have e41 := zt_5
                have e42 := zt_153
                refine zk_call (s_X0_shades 153 (σ (154 + 2 + (Int32.toNatClampNeg a1)) 1) σ hσ xk_153) (fun r39 σ40 hp43 => ?_)
                obtain ⟨rfl, x44⟩ := hp43
                refine zk_ite (fun h45 => ?_) (fun h45 => ?_)
                · have g46 := zeq h45
                  exact zk_some hσ
                · have g47 := zne h45
                  exact zk_some hσ
              · have g48 := zne h39
                have e49 := zt_5
                refine zk_ite (fun h50 => ?_) (fun h50 => ?_)
                · have g51 := zeq h50
                  have e52 := zt_6
                  refine zk_call (s_X4_worth (154 + 2 + (Int32.toNatClampNeg a1)) σ hσ (xS xk_154 (zIn z12).2)) (fun r52 σ53 hp53 => ?_)
                  subst hp53
                  exact zk_some hσ
                · have g54 := zne h50
                  have e55 := zt_6
                  exact zk_some hσ

set_option maxHeartbeats 400000 in
theorem s_X6_trim (a1 : Int32) (σ : zg_S) (hσ : IX σ)  : zk (f_X6_trim a1 σ) (fun r s => IX s) := by
  unfold f_X6_trim
  have e1 := zt_0
  refine zk_call (s_X6_within a1 0 (σ 0 10) σ hσ ) (fun r1 σ2 hp2 => ?_)
  obtain ⟨rfl, x3⟩ := hp2
  have f4 : 0 ≤ (σ 0 10).toInt ∧ (σ 0 10).toInt ≤ 96 := IXf hσ xk_0 10
  refine zk_ite (fun h8 => ?_) (fun h8 => ?_)
  · have g9 := zeq h8
    exact zk_some hσ
  · have g10 := zne h8
    obtain ⟨_d5, _d6, _d7⟩ := x3.resolve_left h8
    refine zk_let (fun σ10 q12 => ?_)
    have hS11 : IX σ10 := by rw [q12]; exact IX.up hσ xk_0 (xconT (zTs a1) ⟨by omega, by omega⟩)
    exact zk_some hS11

set_option maxHeartbeats 400000 in
theorem s_X6_turns (a1 : Int32) (a2 : Int32) (σ : zg_S) (hσ : IX σ)  : zk (f_X6_turns a1 a2 σ) (fun r s => IX s) := by
  unfold f_X6_turns
  refine zk_call (s_X6_isStall a1 σ hσ ) (fun r1 σ2 hp1 => ?_)
  obtain ⟨rfl, x2⟩ := hp1
  have f3 : 0 ≤ (σ 153 3).toInt ∧ (σ 153 3).toInt ≤ 9 := IXf hσ xk_153 3
  refine zk_ite (fun h7 => ?_) (fun h7 => ?_)
  · have g8 := zeq h7
    have e9 := zt_0
    exact zk_some hσ
  · have g10 := zne h7
    have e11 := zt_0
    obtain ⟨_d4, _d5, _d6⟩ := x2.resolve_left h7
    have e12 := zt_5
    refine zk_call (s_X6_within a2 0 5 σ hσ ) (fun r11 σ12 hp13 => ?_)
    obtain ⟨rfl, x14⟩ := hp13
    refine zk_ite (fun h18 => ?_) (fun h18 => ?_)
    · have g19 := zeq h18
      exact zk_some hσ
    · have g20 := zne h18
      obtain ⟨_d15, _d16, _d17⟩ := x14.resolve_left h18
      have z21 : zin a1 9 = true := zin_mkT (zTs a1) (by omega) (by omega)
      refine zk_in z21 ?_
      refine zk_let (fun y25 ey22 => ?_)
      refine zk_let (fun σ30 q24 => ?_)
      have hS23 : IX σ30 := by rw [q24]; exact IX.up hσ (xS xk_154 (zIn z21).2) trivial
      exact zk_some hS23

set_option maxHeartbeats 400000 in
theorem s_X6_whose (a1 : Int32) (a2 : Int32) (a3 : Int32) (σ : zg_S) (hσ : IX σ)  : zk (f_X6_whose a1 a2 a3 σ) (fun r s => IX s) := by
  unfold f_X6_whose
  refine zk_call (s_X6_isSheet a1 σ hσ ) (fun r48 σ49 hp1 => ?_)
  obtain ⟨rfl, x2⟩ := hp1
  refine zk_ite (fun h6 => ?_) (fun h6 => ?_)
  · have g7 := zeq h6
    have e8 := zt_0
    exact zk_some hσ
  · have g9 := zne h6
    have e10 := zt_0
    obtain ⟨_d3, _d4, _d5⟩ := x2.resolve_left h6
    have e11 := zt_60
    refine zk_call (s_X6_within a2 0 60 σ hσ ) (fun r58 σ59 hp12 => ?_)
    obtain ⟨rfl, x13⟩ := hp12
    refine zk_ite (fun h17 => ?_) (fun h17 => ?_)
    · have g18 := zeq h17
      exact zk_some hσ
    · have g19 := zne h17
      obtain ⟨_d14, _d15, _d16⟩ := x13.resolve_left h17
      have e20 := zt_1
      refine zk_call (s_X6_within a3 0 1 σ hσ ) (fun r68 σ69 hp21 => ?_)
      obtain ⟨rfl, x22⟩ := hp21
      refine zk_ite (fun h26 => ?_) (fun h26 => ?_)
      · have g27 := zeq h26
        exact zk_some hσ
      · have g28 := zne h26
        obtain ⟨_d23, _d24, _d25⟩ := x22.resolve_left h26
        have z29 : zin a1 4 = true := zin_mkT (zTs a1) (by omega) (by omega)
        refine zk_in z29 ?_
        refine zk_call (s_X2_isMissing (53 + 2 * (Int32.toNatClampNeg a1)) σ hσ (xH (zIn z29).2)) (fun r80 σ81 hp30 => ?_)
        obtain ⟨rfl, x31⟩ := hp30
        refine zk_ite (fun h32 => ?_) (fun h32 => ?_)
        · have g33 := zeq h32
          unfold L_X6_whose_54
          refine zl_III (fun (x4 : Int32) (x5 : Int32) (x6 : Int32) (s54_ : zg_S) => IX s54_ ∧ 0 ≤ x6.toInt ∧ x6.toInt ≤ 3) (fun (x4 : Int32) (x5 : Int32) (x6 : Int32) (s54_ : zg_S) => (3 - x6.toInt).toNat) ?_ zfu 0 2147483647 0 σ ⟨hσ, (by omega), (by omega)⟩ (by unfold zfu; omega)
          intro rec54_ x4 x5 x6 s54_ hI34 ih54_
          obtain ⟨hS35, i36, i37⟩ := hI34
          unfold B_X6_whose_54
          refine zk_ite (fun h38 => ?_) (fun h38 => ?_)
          · have g39 := zle h38
            have e40 := zt_3
            refine zk_ite (fun h41 => ?_) (fun h41 => ?_)
            · have g42 := zeq h41
              have e43 := zt_0
              exact zk_some hS35
            · have g44 := zne h41
              have e45 := zt_0
              exact zk_some hS35
          · have g46 := znle h38
            have e47 := zt_3
            have e48 := zt_165
            have e49 := zt_153
            refine zk_call (s_X0_takeOver 165 153 s54_ hS35 xk_165 xk_153) (fun r9 σ10 hp50 => ?_)
            have hS51 := hp50
            refine zk_let (fun σ16 q53 => ?_)
            have hS52 : IX σ16 := by rw [q53]; exact IX.up hS51 xk_165 trivial
            refine zk_call (s_X6_thinkOn a2 σ16 hS52 (by omega)) (fun r22 σ23 hp54 => ?_)
            have hS55 := hp54
            refine zk_in z29 ?_
            refine zk_call (s_X0_differencesFrom 165 (53 + 2 * (Int32.toNatClampNeg a1)) σ23 hS55 xk_165 (xH (zIn z29).2)) (fun r32 σ33 hp56 => ?_)
            subst hp56
            refine zk_ite (fun h57 => ?_) (fun h57 => ?_)
            · have g58 := zle h57
              unfold B_X6_whose_115
              exact ih54_ x4 x5 (x6 + 1) σ23 ⟨hS55, (by rw [zTe (zTadd (zTs x6) (zTl zt_1) (by omega) (by omega))]; omega), (by rw [zTe (zTadd (zTs x6) (zTl zt_1) (by omega) (by omega))]; omega)⟩ (by show (3 - (x6 + 1).toInt).toNat < (3 - x6.toInt).toNat; rw [zTe (zTadd (zTs x6) (zTl zt_1) (by omega) (by omega))]; omega)
            · have g59 := znle h57
              unfold B_X6_whose_115
              exact ih54_ x6 r32 (x6 + 1) σ23 ⟨hS55, (by rw [zTe (zTadd (zTs x6) (zTl zt_1) (by omega) (by omega))]; omega), (by rw [zTe (zTadd (zTs x6) (zTl zt_1) (by omega) (by omega))]; omega)⟩ (by show (3 - (x6 + 1).toInt).toNat < (3 - x6.toInt).toNat; rw [zTe (zTadd (zTs x6) (zTl zt_1) (by omega) (by omega))]; omega)
        · have g60 := zne h32
          exact zk_some hσ

set_option maxHeartbeats 400000 in
theorem s_X6_why (a1 : Int32) (σ : zg_S) (hσ : IX σ)  : zk (f_X6_why a1 σ) (fun r s => σ = s) := by
  unfold f_X6_why
  have e1 := zt_0
  have e2 := zt_2
  refine zk_call (s_X6_within a1 0 2 σ hσ ) (fun r1 σ2 hp3 => ?_)
  obtain ⟨rfl, x4⟩ := hp3
  refine zk_ite (fun h8 => ?_) (fun h8 => ?_)
  · have g9 := zeq h8
    exact zk_some rfl
  · have g10 := zne h8
    obtain ⟨_d5, _d6, _d7⟩ := x4.resolve_left h8
    have z11 : zin a1 3 = true := zin_mkT (zTs a1) (by omega) (by omega)
    refine zk_in z11 ?_
    exact zk_some rfl

set_option maxHeartbeats 400000 in
theorem s_X6_wider (a1 : Int32) (a2 : Int32) (σ : zg_S) (hσ : IX σ)  : zk (f_X6_wider a1 a2 σ) (fun r s => IX s) := by
  unfold f_X6_wider
  have e1 := zt_0
  have e2 := zt_9999
  refine zk_call (s_X6_within a1 0 9999 σ hσ ) (fun r30 σ31 hp3 => ?_)
  obtain ⟨rfl, x4⟩ := hp3
  refine zk_ite (fun h8 => ?_) (fun h8 => ?_)
  · have g9 := zeq h8
    exact zk_some hσ
  · have g10 := zne h8
    obtain ⟨_d5, _d6, _d7⟩ := x4.resolve_left h8
    have e11 := zt_1
    have e12 := zt_60
    refine zk_call (s_X6_within a2 1 60 σ hσ ) (fun r40 σ41 hp13 => ?_)
    obtain ⟨rfl, x14⟩ := hp13
    refine zk_ite (fun h18 => ?_) (fun h18 => ?_)
    · have g19 := zeq h18
      exact zk_some hσ
    · have g20 := zne h18
      obtain ⟨_d15, _d16, _d17⟩ := x14.resolve_left h18
      unfold L_X6_wider_26
      refine zl_I (fun (x3 : Int32) (s26_ : zg_S) => IX s26_ ∧ 0 ≤ x3.toInt ∧ x3.toInt ≤ 7) (fun (x3 : Int32) (s26_ : zg_S) => (7 - x3.toInt).toNat) ?_ zfu 1 σ ⟨hσ, (by omega), (by omega)⟩ (by unfold zfu; omega)
      intro rec26_ x3 s26_ hI21 ih26_
      obtain ⟨hS22, i23, i24⟩ := hI21
      unfold B_X6_wider_26
      refine zk_ite (fun h25 => ?_) (fun h25 => ?_)
      · have g26 := zlt h25
        have e27 := zt_6
        exact zk_some hS22
      · have g28 := znlt h25
        have e29 := zt_6
        have e30 := zt_165
        have e31 := zt_153
        refine zk_call (s_X0_takeOver 165 153 s26_ hS22 xk_165 xk_153) (fun r4 σ5 hp32 => ?_)
        have hS33 := hp32
        refine zk_call (s_X0_widen 165 x3 σ5 hS33 xk_165) (fun r11 σ12 hp34 => ?_)
        have hS35 := hp34
        refine zk_call (s_X6_thinkOn a2 σ12 hS35 (by omega)) (fun r18 σ19 hp36 => ?_)
        have hS37 := hp36
        refine zk_ite (fun h38 => ?_) (fun h38 => ?_)
        · have g39 := zlt h38
          exact ih26_ (x3 + 1) σ19 ⟨hS37, (by rw [zTe (zTadd (zTs x3) (zTl zt_1) (by omega) (by omega))]; omega), (by rw [zTe (zTadd (zTs x3) (zTl zt_1) (by omega) (by omega))]; omega)⟩ (by show (7 - (x3 + 1).toInt).toNat < (7 - x3.toInt).toNat; rw [zTe (zTadd (zTs x3) (zTl zt_1) (by omega) (by omega))]; omega)
        · have g40 := znlt h38
          exact zk_some hS37

set_option maxHeartbeats 400000 in
theorem s_X6_without (a1 : Int32) (a2 : Int32) (σ : zg_S) (hσ : IX σ)  : zk (f_X6_without a1 a2 σ) (fun r s => IX s) := by
  unfold f_X6_without
  have e1 := zt_1
  have e2 := zt_60
  refine zk_call (s_X6_within a1 1 60 σ hσ ) (fun r39 σ40 hp3 => ?_)
  obtain ⟨rfl, x4⟩ := hp3
  refine zk_ite (fun h8 => ?_) (fun h8 => ?_)
  · have g9 := zeq h8
    have e10 := zt_0
    exact zk_some hσ
  · have g11 := zne h8
    have e12 := zt_0
    obtain ⟨_d5, _d6, _d7⟩ := x4.resolve_left h8
    refine zk_call (s_X6_within a2 0 1 σ hσ ) (fun r49 σ50 hp13 => ?_)
    obtain ⟨rfl, x14⟩ := hp13
    refine zk_ite (fun h18 => ?_) (fun h18 => ?_)
    · have g19 := zeq h18
      exact zk_some hσ
    · have g20 := zne h18
      obtain ⟨_d15, _d16, _d17⟩ := x14.resolve_left h18
      refine zk_ite (fun h21 => ?_) (fun h21 => ?_)
      · have g22 := zeq h21
        have f23 : 0 ≤ (σ 153 3).toInt ∧ (σ 153 3).toInt ≤ 9 := IXf hσ xk_153 3
        exact zk_some hσ
      · have g24 := zne h21
        have f25 : 0 ≤ (σ 153 3).toInt ∧ (σ 153 3).toInt ≤ 9 := IXf hσ xk_153 3
        unfold L_X6_without_43
        refine zl_III (fun (x3 : Int32) (x4 : Int32) (x5 : Int32) (s43_ : zg_S) => IX s43_ ∧ 0 ≤ x5.toInt ∧ x5.toInt ≤ 9) (fun (x3 : Int32) (x4 : Int32) (x5 : Int32) (s43_ : zg_S) => (9 - x5.toInt).toNat) ?_ zfu 0 (-1) 0 σ ⟨hσ, (by omega), (by omega)⟩ (by unfold zfu; omega)
        intro rec43_ x3 x4 x5 s43_ hI26 ih43_
        obtain ⟨hS27, i28, i29⟩ := hI26
        unfold B_X6_without_43
        refine zk_ite (fun h30 => ?_) (fun h30 => ?_)
        · have g31 := zle h30
          have f32 : 0 ≤ (s43_ 153 3).toInt ∧ (s43_ 153 3).toInt ≤ 9 := IXf hS27 xk_153 3
          refine zk_ite (fun h33 => ?_) (fun h33 => ?_)
          · have g34 := zeq h33
            have e35 := zt_0
            exact zk_some hS27
          · have g36 := zne h33
            have e37 := zt_0
            exact zk_some hS27
        · have g38 := znle h30
          have f39 : 0 ≤ (s43_ 153 3).toInt ∧ (s43_ 153 3).toInt ≤ 9 := IXf hS27 xk_153 3
          have e40 := zt_165
          have e41 := zt_153
          refine zk_call (s_X0_takeOver 165 153 s43_ hS27 xk_165 xk_153) (fun r9 σ10 hp42 => ?_)
          have hS43 := hp42
          have z44 : zin x5 9 = true := zin_mkT (zTs x5) (by omega) (by omega)
          refine zk_in z44 ?_
          refine zk_let (fun σ19 q46 => ?_)
          have hS45 : IX σ19 := by rw [q46]; exact IX.up hS43 (xS xk_166 (zIn z44).2) trivial
          refine zk_call (s_X6_thinkOn a1 σ19 hS45 (by omega)) (fun r25 σ26 hp47 => ?_)
          have hS48 := hp47
          refine zk_ite (fun h49 => ?_) (fun h49 => ?_)
          · have g50 := zle h49
            unfold B_X6_without_109
            exact ih43_ x3 x4 (x5 + 1) σ26 ⟨hS48, (by rw [zTe (zTadd (zTs x5) (zTl zt_1) (by omega) (by omega))]; omega), (by rw [zTe (zTadd (zTs x5) (zTl zt_1) (by omega) (by omega))]; omega)⟩ (by show (9 - (x5 + 1).toInt).toNat < (9 - x5.toInt).toNat; rw [zTe (zTadd (zTs x5) (zTl zt_1) (by omega) (by omega))]; omega)
          · have g51 := znle h49
            unfold B_X6_without_109
            exact ih43_ x5 (σ26 165 10) (x5 + 1) σ26 ⟨hS48, (by rw [zTe (zTadd (zTs x5) (zTl zt_1) (by omega) (by omega))]; omega), (by rw [zTe (zTadd (zTs x5) (zTl zt_1) (by omega) (by omega))]; omega)⟩ (by show (9 - (x5 + 1).toInt).toNat < (9 - x5.toInt).toNat; rw [zTe (zTadd (zTs x5) (zTl zt_1) (by omega) (by omega))]; omega)
end
