/-! TOTALITY: the function gives an answer, with P -/
def zk (o : Option (Int32 × zg_S)) (P : Int32 → zg_S → Prop) : Prop := ∃ r s, o = some (r, s) ∧ P r s
theorem zk_some {r : Int32} {s : zg_S} {P : Int32 → zg_S → Prop} (h : P r s) : zk (some (r, s)) P := ⟨r, s, rfl, h⟩
theorem zk_call {o : Option (Int32 × zg_S)} {k : Int32 → zg_S → Option (Int32 × zg_S)} {P Q : Int32 → zg_S → Prop} (h : zk o P) (hk : ∀ r s, P r s → zk (k r s) Q) : zk (zbd o k) Q := by
  obtain ⟨r, s, rfl, hp⟩ := h
  exact hk r s hp
theorem zk_let {α : Type} {a : α} {k : α → Option (Int32 × zg_S)} {P : Int32 → zg_S → Prop} (h : ∀ x, x = a → zk (k x) P) : zk (zlet a k) P := h a rfl
theorem zk_ite {c : Prop} [Decidable c] {t e : Option (Int32 × zg_S)} {P : Int32 → zg_S → Prop} (h1 : c → zk t P) (h2 : ¬ c → zk e P) : zk (if c then t else e) P := by
  by_cases h : c
  · rw [if_pos h]; exact h1 h
  · rw [if_neg h]; exact h2 h
theorem zk_in {i : Int32} {n : Nat} {t : Option (Int32 × zg_S)} {P : Int32 → zg_S → Prop} (h : zin i n = true) (ht : zk t P) : zk (if zin i n = true then t else none) P := by
  rw [if_pos h]; exact ht
theorem zk_nz {c : Prop} [Decidable c] {t : Option (Int32 × zg_S)} {P : Int32 → zg_S → Prop} (h : ¬ c) (ht : zk t P) : zk (if c then none else t) P := by
  rw [if_neg h]; exact ht
theorem zk_ck {c : Prop} [Decidable c] {t : Option (Int32 × zg_S)} {P : Int32 → zg_S → Prop} (h : c) (ht : zk t P) : zk (if c then t else none) P := by
  rw [if_pos h]; exact ht
theorem zk_mono {o : Option (Int32 × zg_S)} {P Q : Int32 → zg_S → Prop} (h : zk o P) (hp : ∀ r s, P r s → Q r s) : zk o Q := by
  obtain ⟨r, s, e, h⟩ := h
  exact ⟨r, s, e, hp r s h⟩
/-! numbers -/
theorem zlt {a b : Int32} (h : a < b) : a.toInt < b.toInt := Int32.lt_iff_toInt_lt.mp h
theorem znlt {a b : Int32} (h : ¬ a < b) : b.toInt ≤ a.toInt := Int.not_lt.mp (fun z => h (Int32.lt_iff_toInt_lt.mpr z))
theorem zle {a b : Int32} (h : a ≤ b) : a.toInt ≤ b.toInt := Int32.le_iff_toInt_le.mp h
theorem znle {a b : Int32} (h : ¬ a ≤ b) : b.toInt < a.toInt := Int.not_le.mp (fun z => h (Int32.le_iff_toInt_le.mpr z))
theorem zeq {a b : Int32} (h : a = b) : a.toInt = b.toInt := congrArg Int32.toInt h
theorem zne {a b : Int32} (h : ¬ a = b) : ¬ a.toInt = b.toInt := fun z => h (Int32.toInt_inj.mp z)
theorem zadd (a b : Int32) (h1 : -2147483648 ≤ a.toInt + b.toInt) (h2 : a.toInt + b.toInt < 2147483648) : (a + b).toInt = a.toInt + b.toInt := by
  rw [Int32.toInt_add]
  exact Int.bmod_eq_of_le (by omega) (by omega)
theorem zsub (a b : Int32) (h1 : -2147483648 ≤ a.toInt - b.toInt) (h2 : a.toInt - b.toInt < 2147483648) : (a - b).toInt = a.toInt - b.toInt := by
  rw [Int32.toInt_sub]
  exact Int.bmod_eq_of_le (by omega) (by omega)
theorem zmulL (b a : Int32) (n : Int) (e : a.toInt = n) (h1 : -2147483648 ≤ n * b.toInt) (h2 : n * b.toInt < 2147483648) : (a * b).toInt = n * b.toInt := by
  rw [Int32.toInt_mul, e]
  exact Int.bmod_eq_of_le (by omega) (by omega)
theorem zmulR (a b : Int32) (n : Int) (e : b.toInt = n) (h1 : -2147483648 ≤ a.toInt * n) (h2 : a.toInt * n < 2147483648) : (a * b).toInt = a.toInt * n := by
  rw [Int32.toInt_mul, e]
  exact Int.bmod_eq_of_le (by omega) (by omega)
/-- a number of an int, told apart from it (nested sums are kept from omega) -/
def zT (a : Int32) (v : Int) : Prop := a.toInt = v
theorem zTs (a : Int32) : zT a a.toInt := rfl
theorem zTl {a : Int32} {v : Int} (h : a.toInt = v) : zT a v := h
theorem zTe {a : Int32} {v : Int} (h : zT a v) : a.toInt = v := h
theorem zTadd {a b : Int32} {u v : Int} (ha : zT a u) (hb : zT b v) (h1 : -2147483648 ≤ u + v) (h2 : u + v < 2147483648) : zT (a + b) (u + v) := by
  unfold zT at *
  subst ha
  subst hb
  exact zadd a b h1 h2
theorem zTsub {a b : Int32} {u v : Int} (ha : zT a u) (hb : zT b v) (h1 : -2147483648 ≤ u - v) (h2 : u - v < 2147483648) : zT (a - b) (u - v) := by
  unfold zT at *
  subst ha
  subst hb
  exact zsub a b h1 h2
theorem zTmul {a b : Int32} {u v : Int} (ha : zT a u) (hb : zT b v) (h1 : -2147483648 ≤ u * v) (h2 : u * v < 2147483648) : zT (a * b) (u * v) := by
  unfold zT at *
  subst ha
  subst hb
  rw [Int32.toInt_mul]
  exact Int.bmod_eq_of_le (by omega) (by omega)
theorem zmin {y a b : Int32} (h : y = if a < b then a else b) : y.toInt ≤ b.toInt := by
  by_cases c : a < b
  · rw [if_pos c] at h; rw [h]; exact Int.le_of_lt (zlt c)
  · rw [if_neg c] at h; rw [h]; exact Int.le_refl _
theorem zin_mk {i : Int32} {n : Nat} (h0 : 0 ≤ i.toInt) (h1 : i.toInt < n) : zin i n = true := by
  unfold zin
  rw [Bool.and_eq_true, decide_eq_true_eq, decide_eq_true_eq]
  refine ⟨Int32.le_iff_toInt_le.mpr (by have e : (0 : Int32).toInt = 0 := by decide
                                        omega), ?_⟩
  show i.toInt.toNat < n
  omega
theorem zin_mkT {i : Int32} {v : Int} {n : Nat} (h : zT i v) (h0 : 0 ≤ v) (h1 : v < n) : zin i n = true := by
  unfold zT at h
  subst h
  exact zin_mk h0 h1
theorem ztn {i : Int32} (h0 : 0 ≤ i.toInt) : (i.toNatClampNeg : Int) = i.toInt := by
  show (i.toInt.toNat : Int) = i.toInt
  omega
theorem zcp {a b n : Int32} (h1 : 0 ≤ a.toInt) (h2 : 0 ≤ b.toInt) (h3 : 0 ≤ n.toInt) (h4 : a.toInt + n.toInt ≤ 24) (h5 : b.toInt + n.toInt ≤ 24) : ¬ a < 0 ∧ ¬ b < 0 ∧ ¬ n < 0 ∧ a.toNatClampNeg + n.toNatClampNeg ≤ 24 ∧ b.toNatClampNeg + n.toNatClampNeg ≤ 24 := by
  have e : (0 : Int32).toInt = 0 := by decide
  have n1 := ztn h1
  have n2 := ztn h2
  have n3 := ztn h3
  refine ⟨fun z => ?_, fun z => ?_, fun z => ?_, by omega, by omega⟩ <;> (have := zlt z; omega)
/-! THE CLASS'S BOUNDS -/
def xconI (kd k : Nat) (v : Int) : Prop := match kd, k with
  | 0, 3 => 0 ≤ v ∧ v ≤ 9
  | 0, 4 => 0 ≤ v ∧ v ≤ 14
  | 1, 2 => 0 ≤ v ∧ v ≤ 96
  | 1, 4 => 0 ≤ v ∧ v ≤ 96
  | 1, 5 => 0 ≤ v ∧ v ≤ 96
  | 2, 1 => 0 ≤ v ∧ v ≤ 24
  | 5, 2 => 0 ≤ v ∧ v ≤ 96
  | 6, 10 => 0 ≤ v ∧ v ≤ 96
  | 6, 11 => 0 ≤ v ∧ v ≤ 60
  | _, _ => True
def xcon (kd k : Nat) (v : Int32) : Prop := xconI kd k v.toInt
theorem xconT {kd k : Nat} {a : Int32} {v : Int} (h : zT a v) (hc : xconI kd k v) : xcon kd k a := by
  unfold zT at h
  subst h
  exact hc
def IX (σ : zg_S) : Prop := ∀ p k, xcon (xkd p) k (σ p k)
theorem IXf {σ : zg_S} {p kd : Nat} (h : IX σ) (hk : XL.2.1 p = kd) (k : Nat) : xcon kd k (σ p k) := by
  have e := h p k
  rw [show xkd p = kd from hk] at e
  exact e
theorem IX.row {σ : zg_S} {p : Nat} {f : Nat → Int32} (h : IX σ) (hk : XL.2.1 p = 8) : IX (zg_row σ p f) := by
  intro q j
  by_cases e : q = p
  · subst e
    rw [show xkd q = 8 from hk]
    exact trivial
  · rw [zg_row_ne e]
    exact h q j
theorem IX.up {σ : zg_S} {p k kd : Nat} {v : Int32} (h : IX σ) (hk : XL.2.1 p = kd) (hc : xcon kd k v) : IX (zg_up σ p k v) := by
  intro q j
  unfold zg_up
  by_cases e : q = p
  · subst e
    rw [zg_row_eq]
    by_cases ej : j = k
    · subst ej
      rw [pk_us, show xkd q = kd from hk]
      exact hc
    · rw [pk_un ej]
      exact h q j
  · rw [zg_row_ne e]
    exact h q j
theorem zkeep {σ : zg_S} {p k p' k' a b : Nat} {v : Int32} (h1 : XL.2.1 p = a) (h2 : XL.2.1 p' = b) (h : Nat.beq a b = false) : zg_up σ p k v p' k' = σ p' k' := by
  have e : p' ≠ p := fun e => by
    subst e
    have := h1.symm.trans h2
    subst this
    rw [Nat.beq_refl] at h
    cases h
  exact congrFun (zg_row_ne e) k'
theorem zkeepr {σ : zg_S} {p p' k' a b : Nat} {f : Nat → Int32} (h1 : XL.2.1 p = a) (h2 : XL.2.1 p' = b) (h : Nat.beq a b = false) : zg_row σ p f p' k' = σ p' k' := by
  have e : p' ≠ p := fun e => by
    subst e
    have := h1.symm.trans h2
    subst this
    rw [Nat.beq_refl] at h
    cases h
  exact congrFun (zg_row_ne e) k'
theorem zkeepf {σ : zg_S} {p k k' : Nat} {v : Int32} (h : Nat.beq k' k = false) : zg_up σ p k v p k' = σ p k' := by
  unfold zg_up
  rw [zg_row_eq]
  exact pk_un (fun e => by subst e; rw [Nat.beq_refl] at h; cases h)
theorem zgot {σ : zg_S} {p k : Nat} {v : Int32} : zg_up σ p k v p k = v := by
  unfold zg_up
  rw [zg_row_eq]
  exact pk_us
theorem zkeepk {σ : zg_S} {p k p' k' : Nat} {v : Int32} (h : Nat.beq k' k = false) : zg_up σ p k v p' k' = σ p' k' := by
  by_cases e : p' = p
  · subst e
    exact zkeepf h
  · exact congrFun (zg_row_ne e) k'
theorem zself {σ : zg_S} {p k p' : Nat} : zg_up σ p k (σ p' k) p' k = σ p' k := by
  by_cases e : p' = p
  · subst e
    exact zgot
  · exact congrFun (zg_row_ne e) k
theorem zl_I {bot : Int32 → zg_S → Option (Int32 × zg_S)} {F : (Int32 → zg_S → Option (Int32 × zg_S)) → Int32 → zg_S → Option (Int32 × zg_S)} {P : Int32 → zg_S → Prop} (I : Int32 → zg_S → Prop) (μ : Int32 → zg_S → Nat) (h : ∀ (rec : Int32 → zg_S → Option (Int32 × zg_S)) (x0 : Int32) (s : zg_S), I x0 s → (∀ (y0 : Int32) (t : zg_S), I y0 t → μ y0 t < μ x0 s → zk (rec y0 t) P) → zk (F rec x0 s) P) : ∀ (n : Nat) (x0 : Int32) (s : zg_S), I x0 s → μ x0 s < n → zk (zfix bot F n x0 s) P := by
  intro n
  induction n with
  | zero => intro x0 s _ hm; omega
  | succ n ih => intro x0 s hI hm; exact h (zfix bot F n) x0 s hI (fun y0 t hI' hm' => ih y0 t hI' (by omega))
theorem zl_II {bot : Int32 → Int32 → zg_S → Option (Int32 × zg_S)} {F : (Int32 → Int32 → zg_S → Option (Int32 × zg_S)) → Int32 → Int32 → zg_S → Option (Int32 × zg_S)} {P : Int32 → zg_S → Prop} (I : Int32 → Int32 → zg_S → Prop) (μ : Int32 → Int32 → zg_S → Nat) (h : ∀ (rec : Int32 → Int32 → zg_S → Option (Int32 × zg_S)) (x0 : Int32) (x1 : Int32) (s : zg_S), I x0 x1 s → (∀ (y0 : Int32) (y1 : Int32) (t : zg_S), I y0 y1 t → μ y0 y1 t < μ x0 x1 s → zk (rec y0 y1 t) P) → zk (F rec x0 x1 s) P) : ∀ (n : Nat) (x0 : Int32) (x1 : Int32) (s : zg_S), I x0 x1 s → μ x0 x1 s < n → zk (zfix bot F n x0 x1 s) P := by
  intro n
  induction n with
  | zero => intro x0 x1 s _ hm; omega
  | succ n ih => intro x0 x1 s hI hm; exact h (zfix bot F n) x0 x1 s hI (fun y0 y1 t hI' hm' => ih y0 y1 t hI' (by omega))
theorem zl_III {bot : Int32 → Int32 → Int32 → zg_S → Option (Int32 × zg_S)} {F : (Int32 → Int32 → Int32 → zg_S → Option (Int32 × zg_S)) → Int32 → Int32 → Int32 → zg_S → Option (Int32 × zg_S)} {P : Int32 → zg_S → Prop} (I : Int32 → Int32 → Int32 → zg_S → Prop) (μ : Int32 → Int32 → Int32 → zg_S → Nat) (h : ∀ (rec : Int32 → Int32 → Int32 → zg_S → Option (Int32 × zg_S)) (x0 : Int32) (x1 : Int32) (x2 : Int32) (s : zg_S), I x0 x1 x2 s → (∀ (y0 : Int32) (y1 : Int32) (y2 : Int32) (t : zg_S), I y0 y1 y2 t → μ y0 y1 y2 t < μ x0 x1 x2 s → zk (rec y0 y1 y2 t) P) → zk (F rec x0 x1 x2 s) P) : ∀ (n : Nat) (x0 : Int32) (x1 : Int32) (x2 : Int32) (s : zg_S), I x0 x1 x2 s → μ x0 x1 x2 s < n → zk (zfix bot F n x0 x1 x2 s) P := by
  intro n
  induction n with
  | zero => intro x0 x1 x2 s _ hm; omega
  | succ n ih => intro x0 x1 x2 s hI hm; exact h (zfix bot F n) x0 x1 x2 s hI (fun y0 y1 y2 t hI' hm' => ih y0 y1 y2 t hI' (by omega))
theorem zl_NI {bot : Nat → Int32 → zg_S → Option (Int32 × zg_S)} {F : (Nat → Int32 → zg_S → Option (Int32 × zg_S)) → Nat → Int32 → zg_S → Option (Int32 × zg_S)} {P : Int32 → zg_S → Prop} (I : Nat → Int32 → zg_S → Prop) (μ : Nat → Int32 → zg_S → Nat) (h : ∀ (rec : Nat → Int32 → zg_S → Option (Int32 × zg_S)) (x0 : Nat) (x1 : Int32) (s : zg_S), I x0 x1 s → (∀ (y0 : Nat) (y1 : Int32) (t : zg_S), I y0 y1 t → μ y0 y1 t < μ x0 x1 s → zk (rec y0 y1 t) P) → zk (F rec x0 x1 s) P) : ∀ (n : Nat) (x0 : Nat) (x1 : Int32) (s : zg_S), I x0 x1 s → μ x0 x1 s < n → zk (zfix bot F n x0 x1 s) P := by
  intro n
  induction n with
  | zero => intro x0 x1 s _ hm; omega
  | succ n ih => intro x0 x1 s hI hm; exact h (zfix bot F n) x0 x1 s hI (fun y0 y1 t hI' hm' => ih y0 y1 t hI' (by omega))
theorem zl_NII {bot : Nat → Int32 → Int32 → zg_S → Option (Int32 × zg_S)} {F : (Nat → Int32 → Int32 → zg_S → Option (Int32 × zg_S)) → Nat → Int32 → Int32 → zg_S → Option (Int32 × zg_S)} {P : Int32 → zg_S → Prop} (I : Nat → Int32 → Int32 → zg_S → Prop) (μ : Nat → Int32 → Int32 → zg_S → Nat) (h : ∀ (rec : Nat → Int32 → Int32 → zg_S → Option (Int32 × zg_S)) (x0 : Nat) (x1 : Int32) (x2 : Int32) (s : zg_S), I x0 x1 x2 s → (∀ (y0 : Nat) (y1 : Int32) (y2 : Int32) (t : zg_S), I y0 y1 y2 t → μ y0 y1 y2 t < μ x0 x1 x2 s → zk (rec y0 y1 y2 t) P) → zk (F rec x0 x1 x2 s) P) : ∀ (n : Nat) (x0 : Nat) (x1 : Int32) (x2 : Int32) (s : zg_S), I x0 x1 x2 s → μ x0 x1 x2 s < n → zk (zfix bot F n x0 x1 x2 s) P := by
  intro n
  induction n with
  | zero => intro x0 x1 x2 s _ hm; omega
  | succ n ih => intro x0 x1 x2 s hI hm; exact h (zfix bot F n) x0 x1 x2 s hI (fun y0 y1 y2 t hI' hm' => ih y0 y1 y2 t hI' (by omega))
theorem zt_m1000000005 : (-1000000005 : Int32).toInt = -1000000005 := by decide
theorem zt_m99999 : (-99999 : Int32).toInt = -99999 := by decide
theorem zt_m1033 : (-1033 : Int32).toInt = -1033 := by decide
theorem zt_m1000 : (-1000 : Int32).toInt = -1000 := by decide
theorem zt_m8 : (-8 : Int32).toInt = -8 := by decide
theorem zt_m2 : (-2 : Int32).toInt = -2 := by decide
theorem zt_m1 : (-1 : Int32).toInt = -1 := by decide
theorem zt_0 : (0 : Int32).toInt = 0 := by decide
theorem zt_1 : (1 : Int32).toInt = 1 := by decide
theorem zt_2 : (2 : Int32).toInt = 2 := by decide
theorem zt_3 : (3 : Int32).toInt = 3 := by decide
theorem zt_4 : (4 : Int32).toInt = 4 := by decide
theorem zt_5 : (5 : Int32).toInt = 5 := by decide
theorem zt_6 : (6 : Int32).toInt = 6 := by decide
theorem zt_8 : (8 : Int32).toInt = 8 := by decide
theorem zt_9 : (9 : Int32).toInt = 9 := by decide
theorem zt_11 : (11 : Int32).toInt = 11 := by decide
theorem zt_12 : (12 : Int32).toInt = 12 := by decide
theorem zt_13 : (13 : Int32).toInt = 13 := by decide
theorem zt_14 : (14 : Int32).toInt = 14 := by decide
theorem zt_24 : (24 : Int32).toInt = 24 := by decide
theorem zt_30 : (30 : Int32).toInt = 30 := by decide
theorem zt_38 : (38 : Int32).toInt = 38 := by decide
theorem zt_42 : (42 : Int32).toInt = 42 := by decide
theorem zt_43 : (43 : Int32).toInt = 43 := by decide
theorem zt_45 : (45 : Int32).toInt = 45 := by decide
theorem zt_47 : (47 : Int32).toInt = 47 := by decide
theorem zt_48 : (48 : Int32).toInt = 48 := by decide
theorem zt_57 : (57 : Int32).toInt = 57 := by decide
theorem zt_60 : (60 : Int32).toInt = 60 := by decide
theorem zt_61 : (61 : Int32).toInt = 61 := by decide
theorem zt_62 : (62 : Int32).toInt = 62 := by decide
theorem zt_81 : (81 : Int32).toInt = 81 := by decide
theorem zt_95 : (95 : Int32).toInt = 95 := by decide
theorem zt_96 : (96 : Int32).toInt = 96 := by decide
theorem zt_97 : (97 : Int32).toInt = 97 := by decide
theorem zt_99 : (99 : Int32).toInt = 99 := by decide
theorem zt_100 : (100 : Int32).toInt = 100 := by decide
theorem zt_122 : (122 : Int32).toInt = 122 := by decide
theorem zt_124 : (124 : Int32).toInt = 124 := by decide
theorem zt_153 : (153 : Int32).toInt = 153 := by decide
theorem zt_165 : (165 : Int32).toInt = 165 := by decide
theorem zt_177 : (177 : Int32).toInt = 177 := by decide
theorem zt_999 : (999 : Int32).toInt = 999 := by decide
theorem zt_9999 : (9999 : Int32).toInt = 9999 := by decide
theorem zt_99999 : (99999 : Int32).toInt = 99999 := by decide
