/-! THE REFERENCE'S BOUNDS -/
def mconI (p k : Nat) (v : Int) : Prop := match p with
  | 0 => match k with
    | 14 => 0 ≤ v ∧ v ≤ 96
    | 15 => 0 ≤ v ∧ v ≤ 96
    | 16 => 0 ≤ v ∧ v ≤ 96
    | 29 => 0 ≤ v ∧ v ≤ 60
    | _ => True
  | 1 => match k with
    | 0 => 0 ≤ v ∧ v ≤ 9
    | 1 => 0 ≤ v ∧ v ≤ 14
    | _ => True
  | 2 => match k with
    | 0 => 0 ≤ v ∧ v ≤ 9
    | 1 => 0 ≤ v ∧ v ≤ 14
    | _ => True
  | 3 => match k with
    | 0 => 0 ≤ v ∧ v ≤ 9
    | 1 => 0 ≤ v ∧ v ≤ 14
    | _ => True
  | 12 => match k with
    | 0 => 0 ≤ v ∧ v ≤ 9
    | 1 => 0 ≤ v ∧ v ≤ 14
    | _ => True
  | 5 => 0 ≤ v ∧ v ≤ 24
  | 10 => 0 ≤ v ∧ v ≤ 24
  | _ => True
def IMc (σ : zg_S) : Prop := ∀ p k, mconI p k (σ p k).toInt
theorem IMf {σ : zg_S} (h : IMc σ) (p k : Nat) : mconI p k (σ p k).toInt := h p k
theorem IMc.up {σ : zg_S} {p k : Nat} {a : Int32} {v : Int} (h : IMc σ) (hz : zT a v) (hc : mconI p k v) : IMc (zg_up σ p k a) := by
  intro q j
  unfold zT at hz
  subst hz
  unfold zg_up
  by_cases e : q = p
  · subst e
    rw [zg_row_eq]
    by_cases ej : j = k
    · subst ej
      rw [pk_us]
      exact hc
    · rw [pk_un ej]
      exact h q j
  · rw [zg_row_ne e]
    exact h q j
theorem mcon1 {k : Nat} {v : Int} (h : 2 ≤ k) : mconI 1 k v := by
  match k, h with
  | k + 2, _ => exact trivial
/-- the texts, the image, what is laid by: unchanged -/
def hi (σ s : zg_S) : Prop := s 1 1 = σ 1 1 ∧ (∀ i, 47 ≤ i → s 1 i = σ 1 i) ∧ s 2 = σ 2 ∧ s 3 = σ 3 ∧ s 12 = σ 12 ∧ s 0 3 = σ 0 3
theorem hi.rf {σ : zg_S} : hi σ σ := ⟨rfl, fun _ _ => rfl, rfl, rfl, rfl, rfl⟩
theorem hi.tr {a b c : zg_S} (h1 : hi a b) (h2 : hi b c) : hi a c := ⟨h2.1.trans h1.1, fun i hi => (h2.2.1 i hi).trans (h1.2.1 i hi), h2.2.2.1.trans h1.2.2.1, h2.2.2.2.1.trans h1.2.2.2.1, h2.2.2.2.2.1.trans h1.2.2.2.2.1, h2.2.2.2.2.2.trans h1.2.2.2.2.2⟩
theorem zup_ne {σ : zg_S} {p k q : Nat} {v : Int32} (h : Nat.beq q p = false) : zg_up σ p k v q = σ q := zg_row_ne (fun e => by subst e; rw [Nat.beq_refl] at h; cases h)
theorem hi.up1 {σ s : zg_S} {i : Nat} {v : Int32} (h : hi σ s) (h2 : 2 ≤ i) (h3 : i < 47) : hi σ (zg_up s 1 i v) := by
  have e : ∀ j, j ≠ i → zg_up s 1 i v 1 j = s 1 j := fun j hj => by
    unfold zg_up
    rw [zg_row_eq]
    exact pk_un hj
  exact h.tr ⟨e 1 (by omega), fun j hj => e j (by omega), zup_ne rfl, zup_ne rfl, zup_ne rfl, congrFun (zup_ne rfl) 3⟩
theorem hi.up1z {σ s : zg_S} {v : Int32} (h : hi σ s) : hi σ (zg_up s 1 0 v) := by
  have e : ∀ j, j ≠ 0 → zg_up s 1 0 v 1 j = s 1 j := fun j hj => by
    unfold zg_up
    rw [zg_row_eq]
    exact pk_un hj
  exact h.tr ⟨e 1 (by omega), fun j hj => e j (by omega), zup_ne rfl, zup_ne rfl, zup_ne rfl, congrFun (zup_ne rfl) 3⟩
theorem hi.up0 {σ s : zg_S} {k : Nat} {v : Int32} (h : hi σ s) (hk : Nat.beq 3 k = false) : hi σ (zg_up s 0 k v) :=
  h.tr ⟨congrFun (zup_ne rfl) 1, fun j _ => congrFun (zup_ne rfl) j, zup_ne rfl, zup_ne rfl, zup_ne rfl, zkeepf hk⟩
theorem hi.upo {σ s : zg_S} {p k : Nat} {v : Int32} (h : hi σ s) (hp : (Nat.beq 0 p || Nat.beq 1 p || Nat.beq 2 p || Nat.beq 3 p || Nat.beq 12 p) = false) : hi σ (zg_up s p k v) := by
  rw [Bool.or_eq_false_iff, Bool.or_eq_false_iff, Bool.or_eq_false_iff, Bool.or_eq_false_iff] at hp
  obtain ⟨⟨⟨⟨h0, h1⟩, h2⟩, h3⟩, h12⟩ := hp
  exact h.tr ⟨congrFun (zup_ne h1) 1, fun j _ => congrFun (zup_ne h1) j, zup_ne h2, zup_ne h3, zup_ne h12, congrFun (zup_ne h0) 3⟩
/-- a text's steps: how many numbers lie on the pile behind them -/
def dep (f : Nat → Int32) (b : Nat) : Nat → Nat → Nat → Option Nat
  | _, 0, d => some d
  | k, n + 1, d => if f (b + 2 * k) = 2 then (if f (b + 2 * k + 1) = 33 then (if 1 ≤ d then dep f b (k + 1) n d else none) else if 2 ≤ d then dep f b (k + 1) n (d - 1) else none) else if f (b + 2 * k) = 0 ∨ (0 ≤ (f (b + 2 * k + 1)).toInt ∧ (f (b + 2 * k + 1)).toInt < 128) then dep f b (k + 1) n (d + 1) else none
def wfT (f : Nat → Int32) (b : Nat) : Prop := 0 ≤ (f (b + 2)).toInt ∧ (f (b + 2)).toInt ≤ 98 ∧ dep f (b + 4) 0 (f (b + 2)).toNatClampNeg 0 = some 1
def WF (f : Nat → Int32) : Prop := ∀ t : Nat, (t : Int) < (f 1).toInt → wfT f (47 + 200 * t)
theorem dep_eq {f g : Nat → Int32} {b : Nat} : ∀ (n k d : Nat), (∀ j, k ≤ j → j < k + n → g (b + 2 * j) = f (b + 2 * j) ∧ g (b + 2 * j + 1) = f (b + 2 * j + 1)) → dep g b k n d = dep f b k n d := by
  intro n
  induction n with
  | zero => intro k d _; unfold dep; rfl
  | succ n ih =>
    intro k d h
    have h0 := h k (Nat.le_refl _) (by omega)
    unfold dep
    rw [h0.1, h0.2, ih (k + 1) d (fun j h1 h2 => h j (by omega) (by omega)), ih (k + 1) (d - 1) (fun j h1 h2 => h j (by omega) (by omega)), ih (k + 1) (d + 1) (fun j h1 h2 => h j (by omega) (by omega))]
theorem wfT_eq {f g : Nat → Int32} {b : Nat} (h : ∀ j, j < 200 → g (b + j) = f (b + j)) (w : wfT f b) : wfT g b := by
  obtain ⟨w1, w2, w3⟩ := w
  have e2 := h 2 (by omega)
  have hn : (f (b + 2)).toNatClampNeg ≤ 98 := by
    have := ztn w1
    omega
  unfold wfT
  rw [e2]
  refine ⟨w1, w2, ?_⟩
  rw [dep_eq _ 0 0 (fun j _ hj => ?_)]
  · exact w3
  · have a1 := h (4 + 2 * j) (by omega)
    have a2 := h (4 + 2 * j + 1) (by omega)
    rw [show b + 4 + 2 * j = b + (4 + 2 * j) by omega]
    exact ⟨a1, a2⟩
theorem WF_eq {f g : Nat → Int32} (h1 : g 1 = f 1) (h : ∀ i, 47 ≤ i → g i = f i) (w : WF f) : WF g := by
  intro t ht
  rw [h1] at ht
  exact wfT_eq (fun j _ => h _ (by omega)) (w t ht)
theorem WF.hi {σ s : zg_S} (w : WF (σ 1)) (h : hi σ s) : WF (s 1) := WF_eq h.1 h.2.1 w
theorem zI64 (x : Int32) : (Int32.toInt64 x).toInt = x.toInt := Int32.toInt_toInt64 x
theorem s_X7_isIn (a0 a2 a4 : Int64) (σ : zg_S) (hσ : IMc σ) : zk (f_X7_isIn a0 a2 a4 σ) (fun r s => σ = s ∧ (r = 0 ∨ (r = 1 ∧ a2.toInt ≤ a0.toInt ∧ a0.toInt ≤ a4.toInt))) := by
  unfold f_X7_isIn
  refine zk_ite (fun _ => zk_some ⟨rfl, Or.inl rfl⟩) (fun h1 => ?_)
  refine zk_ite (fun _ => zk_some ⟨rfl, Or.inl rfl⟩) (fun h2 => ?_)
  have g1 : ¬ a0 < a2 := fun z => h1 ((lg_cmp_lt _ _).mpr z)
  have g2 : ¬ a4 < a0 := fun z => h2 ((lg_cmp_gt _ _).mpr z)
  rw [Int64.lt_iff_toInt_lt] at g1 g2
  exact zk_some ⟨rfl, Or.inr ⟨rfl, by omega, by omega⟩⟩
theorem zTge {a : Int32} {v : Int} (h : zT a v) (h2 : 2 ≤ v) : 2 ≤ a.toNatClampNeg := by
  unfold zT at h
  have := ztn (i := a) (by omega)
  omega
theorem zTlt {a : Int32} {v : Int} {n : Nat} (h : zT a v) (h0 : 0 ≤ v) (h2 : v < n) : a.toNatClampNeg < n := by
  unfold zT at h
  have := ztn (i := a) (by omega)
  omega
theorem zt_7 : (7 : Int32).toInt = 7 := by decide
theorem zt_39 : (39 : Int32).toInt = 39 := by decide
theorem zt_40 : (40 : Int32).toInt = 40 := by decide
theorem zt_41 : (41 : Int32).toInt = 41 := by decide
theorem zt_44 : (44 : Int32).toInt = 44 := by decide
theorem zt_46 : (46 : Int32).toInt = 46 := by decide
theorem zt_49 : (49 : Int32).toInt = 49 := by decide
theorem zt_50 : (50 : Int32).toInt = 50 := by decide
theorem zt_51 : (51 : Int32).toInt = 51 := by decide
theorem zt_52 : (52 : Int32).toInt = 52 := by decide
theorem zt_53 : (53 : Int32).toInt = 53 := by decide
theorem zt_54 : (54 : Int32).toInt = 54 := by decide
theorem zt_55 : (55 : Int32).toInt = 55 := by decide
theorem zt_56 : (56 : Int32).toInt = 56 := by decide
theorem zt_58 : (58 : Int32).toInt = 58 := by decide
theorem zt_59 : (59 : Int32).toInt = 59 := by decide
theorem zt_103 : (103 : Int32).toInt = 103 := by decide
theorem zt_104 : (104 : Int32).toInt = 104 := by decide
theorem zt_112 : (112 : Int32).toInt = 112 := by decide
theorem zt_115 : (115 : Int32).toInt = 115 := by decide
theorem zt_116 : (116 : Int32).toInt = 116 := by decide
theorem zt_200 : (200 : Int32).toInt = 200 := by decide
