section
/-! THE REFERENCE'S BOUNDS -/
def mconI (p k : Nat) (v : Int) : Prop := match p with
  | 0 => match k with
    | 14 => 0 ≤ v ∧ v ≤ 96
    | 15 => 0 ≤ v ∧ v ≤ 96
    | 16 => 0 ≤ v ∧ v ≤ 96
    | 29 => 0 ≤ v ∧ v ≤ 60
    | _ => True
  | 1 => match k with
    | 0 => 0 ≤ v ∧ v ≤ 9
    | 1 => 0 ≤ v ∧ v ≤ 14
    | _ => True
  | 2 => match k with
    | 0 => 0 ≤ v ∧ v ≤ 9
    | 1 => 0 ≤ v ∧ v ≤ 14
    | _ => True
  | 3 => match k with
    | 0 => 0 ≤ v ∧ v ≤ 9
    | 1 => 0 ≤ v ∧ v ≤ 14
    | _ => True
  | 12 => match k with
    | 0 => 0 ≤ v ∧ v ≤ 9
    | 1 => 0 ≤ v ∧ v ≤ 14
    | _ => True
  | 5 => 0 ≤ v ∧ v ≤ 24
  | 10 => 0 ≤ v ∧ v ≤ 24
  | _ => True
def IMc (σ : zg_S) : Prop := ∀ p k, mconI p k (σ p k).toInt
theorem IMf {σ : zg_S} (h : IMc σ) (p k : Nat) : mconI p k (σ p k).toInt := h p k
theorem IMc.up {σ : zg_S} {p k : Nat} {a : Int32} {v : Int} (h : IMc σ) (hz : zT a v) (hc : mconI p k v) : IMc (zg_up σ p k a) := by
  intro q j
  unfold zT at hz
  subst hz
  unfold zg_up
  by_cases e : q = p
  · subst e
    rw [zg_row_eq]
    by_cases ej : j = k
    · subst ej
      rw [pk_us]
      exact hc
    · rw [pk_un ej]
      exact h q j
  · rw [zg_row_ne e]
    exact h q j
theorem mcon1 {k : Nat} {v : Int} (h : 2 ≤ k) : mconI 1 k v := by
  match k, h with
  | k + 2, _ => exact trivial
/-- the texts, the image, what is laid by: unchanged -/
def hi (σ s : zg_S) : Prop := s 1 1 = σ 1 1 ∧ (∀ i, 47 ≤ i → s 1 i = σ 1 i) ∧ s 2 = σ 2 ∧ s 3 = σ 3 ∧ s 12 = σ 12 ∧ s 0 3 = σ 0 3
theorem hi.rf {σ : zg_S} : hi σ σ := ⟨rfl, fun _ _ => rfl, rfl, rfl, rfl, rfl⟩
theorem hi.tr {a b c : zg_S} (h1 : hi a b) (h2 : hi b c) : hi a c := ⟨h2.1.trans h1.1, fun i hi => (h2.2.1 i hi).trans (h1.2.1 i hi), h2.2.2.1.trans h1.2.2.1, h2.2.2.2.1.trans h1.2.2.2.1, h2.2.2.2.2.1.trans h1.2.2.2.2.1, h2.2.2.2.2.2.trans h1.2.2.2.2.2⟩
theorem zup_ne {σ : zg_S} {p k q : Nat} {v : Int32} (h : Nat.beq q p = false) : zg_up σ p k v q = σ q := zg_row_ne (fun e => by subst e; rw [Nat.beq_refl] at h; cases h)
theorem hi.up1 {σ s : zg_S} {i : Nat} {v : Int32} (h : hi σ s) (h2 : 2 ≤ i) (h3 : i < 47) : hi σ (zg_up s 1 i v) := by
  have e : ∀ j, j ≠ i → zg_up s 1 i v 1 j = s 1 j := fun j hj => by
    unfold zg_up
    rw [zg_row_eq]
    exact pk_un hj
  exact h.tr ⟨e 1 (by omega), fun j hj => e j (by omega), zup_ne rfl, zup_ne rfl, zup_ne rfl, congrFun (zup_ne rfl) 3⟩
theorem hi.up1z {σ s : zg_S} {v : Int32} (h : hi σ s) : hi σ (zg_up s 1 0 v) := by
  have e : ∀ j, j ≠ 0 → zg_up s 1 0 v 1 j = s 1 j := fun j hj => by
    unfold zg_up
    rw [zg_row_eq]
    exact pk_un hj
  exact h.tr ⟨e 1 (by omega), fun j hj => e j (by omega), zup_ne rfl, zup_ne rfl, zup_ne rfl, congrFun (zup_ne rfl) 3⟩
theorem hi.up0 {σ s : zg_S} {k : Nat} {v : Int32} (h : hi σ s) (hk : Nat.beq 3 k = false) : hi σ (zg_up s 0 k v) :=
  h.tr ⟨congrFun (zup_ne rfl) 1, fun j _ => congrFun (zup_ne rfl) j, zup_ne rfl, zup_ne rfl, zup_ne rfl, zkeepf hk⟩
theorem hi.upo {σ s : zg_S} {p k : Nat} {v : Int32} (h : hi σ s) (hp : (Nat.beq 0 p || Nat.beq 1 p || Nat.beq 2 p || Nat.beq 3 p || Nat.beq 12 p) = false) : hi σ (zg_up s p k v) := by
  rw [Bool.or_eq_false_iff, Bool.or_eq_false_iff, Bool.or_eq_false_iff, Bool.or_eq_false_iff] at hp
  obtain ⟨⟨⟨⟨h0, h1⟩, h2⟩, h3⟩, h12⟩ := hp
  exact h.tr ⟨congrFun (zup_ne h1) 1, fun j _ => congrFun (zup_ne h1) j, zup_ne h2, zup_ne h3, zup_ne h12, congrFun (zup_ne h0) 3⟩
/-- a text's steps: how many numbers lie on the pile behind them -/
def dep (f : Nat → Int32) (b : Nat) : Nat → Nat → Nat → Option Nat
  | _, 0, d => some d
  | k, n + 1, d => if f (b + 2 * k) = 2 then (if f (b + 2 * k + 1) = 33 then (if 1 ≤ d then dep f b (k + 1) n d else none) else if 2 ≤ d then dep f b (k + 1) n (d - 1) else none) else if f (b + 2 * k) = 0 ∨ (0 ≤ (f (b + 2 * k + 1)).toInt ∧ (f (b + 2 * k + 1)).toInt < 128) then dep f b (k + 1) n (d + 1) else none
def wfT (f : Nat → Int32) (b : Nat) : Prop := 0 ≤ (f (b + 2)).toInt ∧ (f (b + 2)).toInt ≤ 98 ∧ dep f (b + 4) 0 (f (b + 2)).toNatClampNeg 0 = some 1
def WF (f : Nat → Int32) : Prop := ∀ t : Nat, (t : Int) < (f 1).toInt → wfT f (47 + 200 * t)
theorem dep_eq {f g : Nat → Int32} {b : Nat} : ∀ (n k d : Nat), (∀ j, k ≤ j → j < k + n → g (b + 2 * j) = f (b + 2 * j) ∧ g (b + 2 * j + 1) = f (b + 2 * j + 1)) → dep g b k n d = dep f b k n d := by
  intro n
  induction n with
  | zero => intro k d _; unfold dep; rfl
  | succ n ih =>
    intro k d h
    have h0 := h k (Nat.le_refl _) (by omega)
    unfold dep
    rw [h0.1, h0.2, ih (k + 1) d (fun j h1 h2 => h j (by omega) (by omega)), ih (k + 1) (d - 1) (fun j h1 h2 => h j (by omega) (by omega)), ih (k + 1) (d + 1) (fun j h1 h2 => h j (by omega) (by omega))]
theorem wfT_eq {f g : Nat → Int32} {b : Nat} (h : ∀ j, j < 200 → g (b + j) = f (b + j)) (w : wfT f b) : wfT g b := by
  obtain ⟨w1, w2, w3⟩ := w
  have e2 := h 2 (by omega)
  have hn : (f (b + 2)).toNatClampNeg ≤ 98 := by
    have := ztn w1
    omega
  unfold wfT
  rw [e2]
  refine ⟨w1, w2, ?_⟩
  rw [dep_eq _ 0 0 (fun j _ hj => ?_)]
  · exact w3
  · have a1 := h (4 + 2 * j) (by omega)
    have a2 := h (4 + 2 * j + 1) (by omega)
    rw [show b + 4 + 2 * j = b + (4 + 2 * j) by omega]
    exact ⟨a1, a2⟩
theorem WF_eq {f g : Nat → Int32} (h1 : g 1 = f 1) (h : ∀ i, 47 ≤ i → g i = f i) (w : WF f) : WF g := by
  intro t ht
  rw [h1] at ht
  exact wfT_eq (fun j _ => h _ (by omega)) (w t ht)
theorem WF.hi {σ s : zg_S} (w : WF (σ 1)) (h : hi σ s) : WF (s 1) := WF_eq h.1 h.2.1 w
theorem zI64 (x : Int32) : (Int32.toInt64 x).toInt = x.toInt := Int32.toInt_toInt64 x
theorem s_X7_isIn (a0 a2 a4 : Int64) (σ : zg_S) (hσ : IMc σ) : zk (f_X7_isIn a0 a2 a4 σ) (fun r s => σ = s ∧ (r = 0 ∨ (r = 1 ∧ a2.toInt ≤ a0.toInt ∧ a0.toInt ≤ a4.toInt))) := by
  unfold f_X7_isIn
  refine zk_ite (fun _ => zk_some ⟨rfl, Or.inl rfl⟩) (fun h1 => ?_)
  refine zk_ite (fun _ => zk_some ⟨rfl, Or.inl rfl⟩) (fun h2 => ?_)
  have g1 : ¬ a0 < a2 := fun z => h1 ((lg_cmp_lt _ _).mpr z)
  have g2 : ¬ a4 < a0 := fun z => h2 ((lg_cmp_gt _ _).mpr z)
  rw [Int64.lt_iff_toInt_lt] at g1 g2
  exact zk_some ⟨rfl, Or.inr ⟨rfl, by omega, by omega⟩⟩
theorem zTge {a : Int32} {v : Int} (h : zT a v) (h2 : 2 ≤ v) : 2 ≤ a.toNatClampNeg := by
  unfold zT at h
  have := ztn (i := a) (by omega)
  omega
theorem zTlt {a : Int32} {v : Int} {n : Nat} (h : zT a v) (h0 : 0 ≤ v) (h2 : v < n) : a.toNatClampNeg < n := by
  unfold zT at h
  have := ztn (i := a) (by omega)
  omega
theorem zt_7 : (7 : Int32).toInt = 7 := by decide
theorem zt_39 : (39 : Int32).toInt = 39 := by decide
theorem zt_40 : (40 : Int32).toInt = 40 := by decide
theorem zt_41 : (41 : Int32).toInt = 41 := by decide
theorem zt_44 : (44 : Int32).toInt = 44 := by decide
theorem zt_46 : (46 : Int32).toInt = 46 := by decide
theorem zt_49 : (49 : Int32).toInt = 49 := by decide
theorem zt_50 : (50 : Int32).toInt = 50 := by decide
theorem zt_51 : (51 : Int32).toInt = 51 := by decide
theorem zt_52 : (52 : Int32).toInt = 52 := by decide
theorem zt_53 : (53 : Int32).toInt = 53 := by decide
theorem zt_54 : (54 : Int32).toInt = 54 := by decide
theorem zt_55 : (55 : Int32).toInt = 55 := by decide
theorem zt_56 : (56 : Int32).toInt = 56 := by decide
theorem zt_58 : (58 : Int32).toInt = 58 := by decide
theorem zt_59 : (59 : Int32).toInt = 59 := by decide
theorem zt_103 : (103 : Int32).toInt = 103 := by decide
theorem zt_104 : (104 : Int32).toInt = 104 := by decide
theorem zt_112 : (112 : Int32).toInt = 112 := by decide
theorem zt_115 : (115 : Int32).toInt = 115 := by decide
theorem zt_116 : (116 : Int32).toInt = 116 := by decide
theorem zt_200 : (200 : Int32).toInt = 200 := by decide
end
section
set_option maxHeartbeats 400000 in
theorem s_X7_isStall (a1 : Int32) (σ : zg_S) (hσ : IMc σ)  : zk (f_X7_isStall a1 σ) (fun r s => σ = s ∧ (r = 0 ∨ (r = 1 ∧ 0 ≤ a1.toInt ∧ a1.toInt < (σ 1 0).toInt))) := by
  unfold f_X7_isStall
  have j1 := zI64 a1
  have j2 := zI64 0
  have e3 := zt_0
  have j4 := zI64 ((σ 1 0) - 1)
  have f5 : 0 ≤ (σ 1 0).toInt ∧ (σ 1 0).toInt ≤ 9 := IMf hσ 1 0
  have e6 := zt_1
  have e7 := zsub (σ 1 0) 1 (by omega) (by omega)
  refine zk_call (s_X7_isIn (Int32.toInt64 a1) (Int32.toInt64 0) (Int32.toInt64 ((σ 1 0) - 1)) σ hσ ) (fun r1 σ2 hp8 => ?_)
  obtain ⟨rfl, x9⟩ := hp8
  refine zk_ck (x9.imp id And.left) ?_
  rcases x9 with rfl | ⟨rfl, _d11, _d12⟩
  · exact zk_some ⟨rfl, (by first | exact Or.inl rfl | exact Or.inr rfl | assumption | omega | exact Or.inr ⟨rfl, by omega, by omega⟩ | exact Or.inr ⟨by omega, by omega⟩)⟩
  · exact zk_some ⟨rfl, (by first | exact Or.inl rfl | exact Or.inr rfl | assumption | omega | exact Or.inr ⟨rfl, by omega, by omega⟩ | exact Or.inr ⟨by omega, by omega⟩)⟩

set_option maxHeartbeats 400000 in
theorem s_X7_of (a1 : Int32) (a2 : Int32) (σ : zg_S) (hσ : IMc σ) (hp0_ : 0 ≤ a1.toInt) (hp1_ : a1.toInt ≤ 8) (hp2_ : 0 ≤ a2.toInt) (hp3_ : a2.toInt ≤ 3) : zk (f_X7_of a1 a2 σ) (fun r s => σ = s) := by
  unfold f_X7_of
  have z1 : zin ((11 + (4 * a1)) + a2) 3047 = true := zin_mkT (zTadd (zTadd (zTl zt_11) (zTmul (zTl zt_4) (zTs a1) (by omega) (by omega)) (by omega) (by omega)) (zTs a2) (by omega) (by omega)) (by omega) (by omega)
  refine zk_in z1 ?_
  exact zk_some rfl

set_option maxHeartbeats 400000 in
theorem s_X7_isOf (a0 : Int32) (a1 : Int32) (σ : zg_S) (hσ : IMc σ)  : zk (f_X7_isOf a0 a1 σ) (fun r s => σ = s ∧ (r = 0 ∨ r = 1)) := by
  unfold f_X7_isOf
  refine zk_ite (fun h1 => ?_) (fun h1 => ?_)
  · have g2 := zeq h1
    have e3 := zt_1
    exact zk_some ⟨rfl, (by first | exact Or.inl rfl | exact Or.inr rfl | assumption | omega | exact Or.inr ⟨rfl, by omega, by omega⟩ | exact Or.inr ⟨by omega, by omega⟩)⟩
  · have g4 := zne h1
    refine zk_ite (fun h5 => ?_) (fun h5 => ?_)
    · have g6 := zeq h5
      have e7 := zt_0
      have e8 := zt_1
      exact zk_some ⟨rfl, (by first | exact Or.inl rfl | exact Or.inr rfl | assumption | omega | exact Or.inr ⟨rfl, by omega, by omega⟩ | exact Or.inr ⟨by omega, by omega⟩)⟩
    · have g9 := zne h5
      have e10 := zt_0
      refine zk_ite (fun h11 => ?_) (fun h11 => ?_)
      · have g12 := zeq h11
        have e13 := zt_1
        refine zk_ite (fun h14 => ?_) (fun h14 => ?_)
        · have g15 := zeq h14
          have e16 := zt_3
          exact zk_some ⟨rfl, (by first | exact Or.inl rfl | exact Or.inr rfl | assumption | omega | exact Or.inr ⟨rfl, by omega, by omega⟩ | exact Or.inr ⟨by omega, by omega⟩)⟩
        · have g17 := zne h14
          have e18 := zt_3
          unfold B_X7_isOf_19
          refine zk_ite (fun h19 => ?_) (fun h19 => ?_)
          · have g20 := zeq h19
            have e21 := zt_2
            refine zk_ite (fun h22 => ?_) (fun h22 => ?_)
            · have g23 := zeq h22
              have e24 := zt_4
              exact zk_some ⟨rfl, (by first | exact Or.inl rfl | exact Or.inr rfl | assumption | omega | exact Or.inr ⟨rfl, by omega, by omega⟩ | exact Or.inr ⟨by omega, by omega⟩)⟩
            · have g25 := zne h22
              have e26 := zt_4
              exact zk_some ⟨rfl, (by first | exact Or.inl rfl | exact Or.inr rfl | assumption | omega | exact Or.inr ⟨rfl, by omega, by omega⟩ | exact Or.inr ⟨by omega, by omega⟩)⟩
          · have g27 := zne h19
            have e28 := zt_2
            exact zk_some ⟨rfl, (by first | exact Or.inl rfl | exact Or.inr rfl | assumption | omega | exact Or.inr ⟨rfl, by omega, by omega⟩ | exact Or.inr ⟨by omega, by omega⟩)⟩
      · have g29 := zne h11
        have e30 := zt_1
        unfold B_X7_isOf_19
        refine zk_ite (fun h31 => ?_) (fun h31 => ?_)
        · have g32 := zeq h31
          have e33 := zt_2
          refine zk_ite (fun h34 => ?_) (fun h34 => ?_)
          · have g35 := zeq h34
            have e36 := zt_4
            exact zk_some ⟨rfl, (by first | exact Or.inl rfl | exact Or.inr rfl | assumption | omega | exact Or.inr ⟨rfl, by omega, by omega⟩ | exact Or.inr ⟨by omega, by omega⟩)⟩
          · have g37 := zne h34
            have e38 := zt_4
            exact zk_some ⟨rfl, (by first | exact Or.inl rfl | exact Or.inr rfl | assumption | omega | exact Or.inr ⟨rfl, by omega, by omega⟩ | exact Or.inr ⟨by omega, by omega⟩)⟩
        · have g39 := zne h31
          have e40 := zt_2
          exact zk_some ⟨rfl, (by first | exact Or.inl rfl | exact Or.inr rfl | assumption | omega | exact Or.inr ⟨rfl, by omega, by omega⟩ | exact Or.inr ⟨by omega, by omega⟩)⟩

set_option maxHeartbeats 400000 in
theorem s_X7_as (a1 : Int32) (a2 : Int32) (σ : zg_S) (hσ : IMc σ)  : zk (f_X7_as a1 a2 σ) (fun r s => σ = s) := by
  unfold f_X7_as
  refine zk_call (s_X7_isStall a1 σ hσ ) (fun r1 σ2 hp1 => ?_)
  obtain ⟨rfl, x2⟩ := hp1
  have f3 : 0 ≤ (σ 1 0).toInt ∧ (σ 1 0).toInt ≤ 9 := IMf hσ 1 0
  refine zk_ite (fun h7 => ?_) (fun h7 => ?_)
  · have g8 := zeq h7
    have e9 := zt_0
    exact zk_some rfl
  · have g10 := zne h7
    have e11 := zt_0
    obtain ⟨_d4, _d5, _d6⟩ := x2.resolve_left h7
    have j12 := zI64 a2
    have j13 := zI64 0
    have j14 := zI64 5
    have e15 := zt_5
    refine zk_call (s_X7_isIn (Int32.toInt64 a2) (Int32.toInt64 0) (Int32.toInt64 5) σ hσ ) (fun r11 σ12 hp16 => ?_)
    obtain ⟨rfl, x17⟩ := hp16
    refine zk_ite (fun h21 => ?_) (fun h21 => ?_)
    · have g22 := zeq h21
      exact zk_some rfl
    · have g23 := zne h21
      obtain ⟨_d18, _d19, _d20⟩ := x17.resolve_left h21
      refine zk_call (s_X7_of a1 0 σ hσ (by omega) (by omega) (by omega) (by omega)) (fun r20 σ21 hp24 => ?_)
      subst hp24
      refine zk_call (s_X7_isOf r20 a2 σ hσ ) (fun r27 σ28 hp25 => ?_)
      obtain ⟨rfl, x26⟩ := hp25
      refine zk_ite (fun h27 => ?_) (fun h27 => ?_)
      · have g28 := zeq h27
        exact zk_some rfl
      · have g29 := zne h27
        have e30 := zt_3
        refine zk_call (s_X7_of a1 3 σ hσ (by omega) (by omega) (by omega) (by omega)) (fun r37 σ38 hp31 => ?_)
        subst hp31
        exact zk_some rfl

set_option maxHeartbeats 400000 in
theorem s_X7_isSlot (a0 : Int32) (σ : zg_S) (hσ : IMc σ)  : zk (f_X7_isSlot a0 σ) (fun r s => σ = s ∧ (r = 0 ∨ (r = 1 ∧ 0 ≤ a0.toInt ∧ a0.toInt ≤ 4))) := by
  unfold f_X7_isSlot
  have j1 := zI64 a0
  have j2 := zI64 0
  have e3 := zt_0
  have j4 := zI64 4
  have e5 := zt_4
  refine zk_call (s_X7_isIn (Int32.toInt64 a0) (Int32.toInt64 0) (Int32.toInt64 4) σ hσ ) (fun r1 σ2 hp6 => ?_)
  obtain ⟨rfl, x7⟩ := hp6
  refine zk_ck (x7.imp id And.left) ?_
  rcases x7 with rfl | ⟨rfl, _d9, _d10⟩
  · exact zk_some ⟨rfl, (by first | exact Or.inl rfl | exact Or.inr rfl | assumption | omega | exact Or.inr ⟨rfl, by omega, by omega⟩ | exact Or.inr ⟨by omega, by omega⟩)⟩
  · have e11 := zt_1
    exact zk_some ⟨rfl, (by first | exact Or.inl rfl | exact Or.inr rfl | assumption | omega | exact Or.inr ⟨rfl, by omega, by omega⟩ | exact Or.inr ⟨by omega, by omega⟩)⟩

set_option maxHeartbeats 400000 in
theorem s_X7_ask (a1 : Int32) (a2 : Int32) (σ : zg_S) (hσ : IMc σ)  : zk (f_X7_ask a1 a2 σ) (fun r s => σ = s) := by
  unfold f_X7_ask
  refine zk_call (s_X7_isSlot a1 σ hσ ) (fun r1 σ2 hp1 => ?_)
  obtain ⟨rfl, x2⟩ := hp1
  refine zk_ite (fun h6 => ?_) (fun h6 => ?_)
  · have g7 := zeq h6
    have e8 := zt_0
    exact zk_some rfl
  · have g9 := zne h6
    have e10 := zt_0
    obtain ⟨_d3, _d4, _d5⟩ := x2.resolve_left h6
    have j11 := zI64 a2
    have j12 := zI64 0
    have j13 := zI64 5
    have e14 := zt_5
    refine zk_call (s_X7_isIn (Int32.toInt64 a2) (Int32.toInt64 0) (Int32.toInt64 5) σ hσ ) (fun r11 σ12 hp15 => ?_)
    obtain ⟨rfl, x16⟩ := hp15
    refine zk_ite (fun h20 => ?_) (fun h20 => ?_)
    · have g21 := zeq h20
      exact zk_some rfl
    · have g22 := zne h20
      obtain ⟨_d17, _d18, _d19⟩ := x16.resolve_left h20
      have z23 : zin a1 5 = true := zin_mkT (zTs a1) (by omega) (by omega)
      refine zk_in z23 ?_
      refine zk_ite (fun h24 => ?_) (fun h24 => ?_)
      · have g25 := zeq h24
        exact zk_some rfl
      · have g26 := zne h24
        refine zk_ite (fun h27 => ?_) (fun h27 => ?_)
        · have g28 := zeq h27
          have e29 := zt_1
          refine zk_call (s_X7_isOf (σ 8 (Int32.toNatClampNeg a1)) a2 σ hσ ) (fun r28 σ29 hp30 => ?_)
          obtain ⟨rfl, x31⟩ := hp30
          refine zk_ite (fun h32 => ?_) (fun h32 => ?_)
          · have g33 := zeq h32
            exact zk_some rfl
          · have g34 := zne h32
            exact zk_some rfl
        · have g35 := zne h27
          have e36 := zt_1
          exact zk_some rfl

set_option maxHeartbeats 400000 in
theorem s_X7_becomes (a1 : Int32) (a2 : Int32) (σ : zg_S) (hσ : IMc σ) (hp0_ : 2 ≤ a1.toInt) (hp1_ : a1.toInt ≤ 46) : zk (f_X7_becomes a1 a2 σ) (fun r s => IMc s ∧ hi σ s) := by
  unfold f_X7_becomes
  have z1 : zin a1 3047 = true := zin_mkT (zTs a1) (by omega) (by omega)
  refine zk_in z1 ?_
  refine zk_let (fun σ6 q4 => ?_)
  have hS2 : IMc σ6 := by rw [q4]; exact IMc.up hσ (zTs a2) (mcon1 (zTge (zTs a1) (by omega)))
  have hH3 : hi σ σ6 := by rw [q4]; exact hi.up1 hi.rf (zTge (zTs a1) (by omega)) (zTlt (zTs a1) (by omega) (by omega))
  exact zk_some ⟨hS2, hH3⟩

set_option maxHeartbeats 400000 in
theorem s_X7_within (a0 : Int32) (a1 : Int32) (σ : zg_S) (hσ : IMc σ)  : zk (f_X7_within a0 a1 σ) (fun r s => σ = s) := by
  unfold f_X7_within
  refine zk_ite (fun h1 => ?_) (fun h1 => ?_)
  · have g2 := zle h1
    have e3 := zt_0
    refine zk_ite (fun h4 => ?_) (fun h4 => ?_)
    · have g5 := zle h4
      exact zk_some rfl
    · have g6 := znle h4
      exact zk_some rfl
  · have g7 := znle h1
    have e8 := zt_0
    exact zk_some rfl

set_option maxHeartbeats 400000 in
theorem s_X7_holds  (σ : zg_S) (hσ : IMc σ)  : zk (f_X7_holds  σ) (fun r s => IMc s ∧ hi σ s) := by
  unfold f_X7_holds
  refine zk_call (s_X7_within (σ 1 7) (12 - (σ 1 8)) σ hσ ) (fun r1 σ2 hp1 => ?_)
  subst hp1
  refine zk_let (fun σ8 q4 => ?_)
  have hS2 : IMc σ8 := by rw [q4]; exact IMc.up hσ (zTs r1) trivial
  have hH3 : hi σ σ8 := by rw [q4]; exact hi.up1 hi.rf (by decide) (by decide)
  exact zk_some ⟨hS2, hH3⟩

set_option maxHeartbeats 400000 in
theorem s_X7_shadeFrom  (σ : zg_S) (hσ : IMc σ)  : zk (f_X7_shadeFrom  σ) (fun r s => σ = s) := by
  unfold f_X7_shadeFrom
  exact zk_some rfl

set_option maxHeartbeats 400000 in
theorem s_X7_isShaded (a1 : Int32) (σ : zg_S) (hσ : IMc σ) (hp0_ : 0 ≤ a1.toInt) (hp1_ : a1.toInt ≤ 8) : zk (f_X7_isShaded a1 σ) (fun r s => σ = s ∧ (r = 0 ∨ r = 1)) := by
  unfold f_X7_isShaded
  have e1 := zt_1
  refine zk_call (s_X7_of a1 1 σ hσ (by omega) (by omega) (by omega) (by omega)) (fun r1 σ2 hp2 => ?_)
  subst hp2
  refine zk_call (s_X7_shadeFrom σ hσ ) (fun r8 σ9 hp3 => ?_)
  subst hp3
  refine zk_call (s_X7_shadeFrom σ hσ ) (fun r15 σ16 hp4 => ?_)
  subst hp4
  have j5 := zI64 r1
  have j6 := zI64 r8
  have j7 := zI64 ((r15 + (σ 1 8)) - 1)
  refine zk_call (s_X7_isIn (Int32.toInt64 r1) (Int32.toInt64 r8) (Int32.toInt64 ((r15 + (σ 1 8)) - 1)) σ hσ ) (fun r22 σ23 hp8 => ?_)
  obtain ⟨rfl, x9⟩ := hp8
  refine zk_ck (x9.imp id And.left) ?_
  rcases x9 with rfl | ⟨rfl, _d11, _d12⟩
  · have e13 := zt_0
    exact zk_some ⟨rfl, (by first | exact Or.inl rfl | exact Or.inr rfl | assumption | omega | exact Or.inr ⟨rfl, by omega, by omega⟩ | exact Or.inr ⟨by omega, by omega⟩)⟩
  · exact zk_some ⟨rfl, (by first | exact Or.inl rfl | exact Or.inr rfl | assumption | omega | exact Or.inr ⟨rfl, by omega, by omega⟩ | exact Or.inr ⟨by omega, by omega⟩)⟩

set_option maxHeartbeats 400000 in
theorem s_X7_payNow  (σ : zg_S) (hσ : IMc σ)  : zk (f_X7_payNow  σ) (fun r s => σ = s) := by
  unfold f_X7_payNow
  have e1 := zt_0
  unfold L_X7_payNow_4
  refine zl_II (fun (x1 : Int32) (x2 : Int32) (s4_ : zg_S) => σ = s4_ ∧ 0 ≤ x2.toInt ∧ x2.toInt ≤ 9) (fun (x1 : Int32) (x2 : Int32) (s4_ : zg_S) => (9 - x2.toInt).toNat) ?_ zfu 0 0 σ ⟨rfl, (by omega), (by omega)⟩ (by unfold zfu; omega)
  intro rec4_ x1 x2 s4_ hI2 ih4_
  obtain ⟨rfl, i3, i4⟩ := hI2
  unfold B_X7_payNow_4
  refine zk_ite (fun h5 => ?_) (fun h5 => ?_)
  · have g6 := zle h5
    have f7 : 0 ≤ (σ 1 0).toInt ∧ (σ 1 0).toInt ≤ 9 := IMf hσ 1 0
    exact zk_some rfl
  · have g8 := znle h5
    have f9 : 0 ≤ (σ 1 0).toInt ∧ (σ 1 0).toInt ≤ 9 := IMf hσ 1 0
    refine zk_call (s_X7_isShaded x2 σ hσ (by omega) (by omega)) (fun r8 σ9 hp10 => ?_)
    obtain ⟨rfl, x11⟩ := hp10
    refine zk_ite (fun h12 => ?_) (fun h12 => ?_)
    · have g13 := zeq h12
      have e14 := zt_0
      unfold B_X7_payNow_33
      exact ih4_ (x1 + 0) (x2 + 1) σ ⟨rfl, (by rw [zTe (zTadd (zTs x2) (zTl zt_1) (by omega) (by omega))]; omega), (by rw [zTe (zTadd (zTs x2) (zTl zt_1) (by omega) (by omega))]; omega)⟩ (by show (9 - (x2 + 1).toInt).toNat < (9 - x2.toInt).toNat; rw [zTe (zTadd (zTs x2) (zTl zt_1) (by omega) (by omega))]; omega)
    · have g15 := zne h12
      have e16 := zt_0
      have e17 := zt_3
      refine zk_call (s_X7_of x2 3 σ hσ (by omega) (by omega) (by omega) (by omega)) (fun r18 σ19 hp18 => ?_)
      subst hp18
      unfold B_X7_payNow_33
      exact ih4_ (x1 + r18) (x2 + 1) σ ⟨rfl, (by rw [zTe (zTadd (zTs x2) (zTl zt_1) (by omega) (by omega))]; omega), (by rw [zTe (zTadd (zTs x2) (zTl zt_1) (by omega) (by omega))]; omega)⟩ (by show (9 - (x2 + 1).toInt).toNat < (9 - x2.toInt).toNat; rw [zTe (zTadd (zTs x2) (zTl zt_1) (by omega) (by omega))]; omega)
end
section
set_option maxHeartbeats 400000 in
theorem s_X7_payIf (a1 : Int32) (σ : zg_S) (hσ : IMc σ)  : zk (f_X7_payIf a1 σ) (fun r s => IMc s ∧ hi σ s) := by
  unfold f_X7_payIf
  refine zk_let (fun σ3 q3 => ?_)
  have hS1 : IMc σ3 := by rw [q3]; exact IMc.up hσ (zTs ((σ 1 7) + a1)) trivial
  have hH2 : hi σ σ3 := by rw [q3]; exact hi.up1 hi.rf (by decide) (by decide)
  refine zk_call (s_X7_holds σ3 hS1 ) (fun r9 σ10 hp4 => ?_)
  obtain ⟨hS5, hH6⟩ := hp4
  refine zk_call (s_X7_payNow σ10 hS5 ) (fun r16 σ17 hp7 => ?_)
  subst hp7
  refine zk_let (fun σ25 q10 => ?_)
  have hS8 : IMc σ25 := by rw [q10]; exact IMc.up hS5 (zTs (σ 1 7)) trivial
  have hH9 : hi σ σ25 := by rw [q10]; exact hi.up1 (hH2.tr hH6) (by decide) (by decide)
  exact zk_some ⟨hS8, hH9⟩

set_option maxHeartbeats 400000 in
theorem s_X7_textAt (a1 : Int32) (σ : zg_S) (hσ : IMc σ) (hp0_ : 0 ≤ a1.toInt) (hp1_ : a1.toInt ≤ 14) : zk (f_X7_textAt a1 σ) (fun r s => σ = s ∧ r.toInt = 47 + 200 * a1.toInt) := by
  unfold f_X7_textAt
  exact zk_some ⟨rfl, (zTe (zTadd (zTl zt_47) (zTmul (zTl zt_200) (zTs a1) (by omega) (by omega)) (by omega) (by omega)))⟩

set_option maxHeartbeats 400000 in
theorem s_X7_counts (a1 : Int32) (σ : zg_S) (hσ : IMc σ)  : zk (f_X7_counts a1 σ) (fun r s => σ = s ∧ -1 ≤ r.toInt ∧ r.toInt < (σ 1 1).toInt) := by
  unfold f_X7_counts
  have e1 := zt_m1
  have e2 := zt_0
  have f3 : 0 ≤ (σ 1 1).toInt ∧ (σ 1 1).toInt ≤ 14 := IMf hσ 1 1
  unfold L_X7_counts_4
  refine zl_II (fun (x2 : Int32) (x3 : Int32) (s4_ : zg_S) => σ = s4_ ∧ -1 ≤ x2.toInt ∧ x2.toInt < (s4_ 1 1).toInt ∧ 0 ≤ x3.toInt ∧ x3.toInt ≤ 14) (fun (x2 : Int32) (x3 : Int32) (s4_ : zg_S) => (14 - x3.toInt).toNat) ?_ zfu (-1) 0 σ ⟨rfl, (by omega), (by omega), (by omega), (by omega)⟩ (by unfold zfu; omega)
  intro rec4_ x2 x3 s4_ hI4 ih4_
  obtain ⟨rfl, i5, i6, i7, i8⟩ := hI4
  unfold B_X7_counts_4
  refine zk_ite (fun h9 => ?_) (fun h9 => ?_)
  · have g10 := zle h9
    have f11 : 0 ≤ (σ 1 1).toInt ∧ (σ 1 1).toInt ≤ 14 := IMf hσ 1 1
    exact zk_some ⟨rfl, (by first | exact Or.inl rfl | exact Or.inr rfl | assumption | omega | exact Or.inr ⟨rfl, by omega, by omega⟩ | exact Or.inr ⟨by omega, by omega⟩), (by first | exact Or.inl rfl | exact Or.inr rfl | assumption | omega | exact Or.inr ⟨rfl, by omega, by omega⟩ | exact Or.inr ⟨by omega, by omega⟩)⟩
  · have g12 := znle h9
    have f13 : 0 ≤ (σ 1 1).toInt ∧ (σ 1 1).toInt ≤ 14 := IMf hσ 1 1
    refine zk_call (s_X7_textAt x3 σ hσ (by omega) (by omega)) (fun r8 σ9 hp14 => ?_)
    obtain ⟨rfl, x15⟩ := hp14
    have z16 : zin r8 3047 = true := zin_mkT (zTs r8) (by omega) (by omega)
    refine zk_in z16 ?_
    refine zk_ite (fun h17 => ?_) (fun h17 => ?_)
    · have g18 := zeq h17
      unfold B_X7_counts_33
      exact ih4_ x3 (x3 + 1) σ ⟨rfl, (by omega), (by omega), (by rw [zTe (zTadd (zTs x3) (zTl zt_1) (by omega) (by omega))]; omega), (by rw [zTe (zTadd (zTs x3) (zTl zt_1) (by omega) (by omega))]; omega)⟩ (by show (14 - (x3 + 1).toInt).toNat < (14 - x3.toInt).toNat; rw [zTe (zTadd (zTs x3) (zTl zt_1) (by omega) (by omega))]; omega)
    · have g19 := zne h17
      unfold B_X7_counts_33
      exact ih4_ x2 (x3 + 1) σ ⟨rfl, (by omega), (by omega), (by rw [zTe (zTadd (zTs x3) (zTl zt_1) (by omega) (by omega))]; omega), (by rw [zTe (zTadd (zTs x3) (zTl zt_1) (by omega) (by omega))]; omega)⟩ (by show (14 - (x3 + 1).toInt).toNat < (14 - x3.toInt).toNat; rw [zTe (zTadd (zTs x3) (zTl zt_1) (by omega) (by omega))]; omega)

set_option maxHeartbeats 400000 in
theorem s_X7_off (a0 : Int32) (a1 : Int32) (σ : zg_S) (hσ : IMc σ)  : zk (f_X7_off a0 a1 σ) (fun r s => σ = s) := by
  unfold f_X7_off
  refine zk_ite (fun h1 => ?_) (fun h1 => ?_)
  · have g2 := zle h1
    exact zk_some rfl
  · have g3 := znle h1
    exact zk_some rfl

set_option maxHeartbeats 400000 in
theorem s_X7_heat  (σ : zg_S) (hσ : IMc σ)  : zk (f_X7_heat  σ) (fun r s => σ = s) := by
  unfold f_X7_heat
  have e1 := zt_5
  refine zk_call (s_X7_off ((σ 1 2) - (σ 1 2) / 10 * 10) 5 σ hσ ) (fun r1 σ2 hp2 => ?_)
  subst hp2
  exact zk_some rfl
end
section
set_option maxHeartbeats 400000 in
theorem s_X7_joined (a0 : Int32) (a1 : Int32) (a2 : Int32) (σ : zg_S) (hσ : IMc σ)  : zk (f_X7_joined a0 a1 a2 σ) (fun r s => σ = s) := by
  unfold f_X7_joined
  refine zk_ite (fun h1 => ?_) (fun h1 => ?_)
  · have g2 := zeq h1
    have e3 := zt_38
    refine zk_ite (fun h4 => ?_) (fun h4 => ?_)
    · have g5 := zeq h4
      have e6 := zt_0
      exact zk_some rfl
    · have g7 := zne h4
      have e8 := zt_0
      refine zk_ite (fun h9 => ?_) (fun h9 => ?_)
      · have g10 := zeq h9
        exact zk_some rfl
      · have g11 := zne h9
        exact zk_some rfl
  · have g12 := zne h1
    have e13 := zt_38
    refine zk_ite (fun h14 => ?_) (fun h14 => ?_)
    · have g15 := zeq h14
      have e16 := zt_39
      unfold B_X7_joined_197
      refine zk_ite (fun h17 => ?_) (fun h17 => ?_)
      · have g18 := zeq h17
        have e19 := zt_0
        refine zk_ite (fun h20 => ?_) (fun h20 => ?_)
        · have g21 := zeq h20
          exact zk_some rfl
        · have g22 := zne h20
          exact zk_some rfl
      · have g23 := zne h17
        have e24 := zt_0
        exact zk_some rfl
    · have g25 := zne h14
      have e26 := zt_39
      refine zk_ite (fun h27 => ?_) (fun h27 => ?_)
      · have g28 := zeq h27
        have e29 := zt_40
        unfold B_X7_joined_197
        refine zk_ite (fun h30 => ?_) (fun h30 => ?_)
        · have g31 := zeq h30
          have e32 := zt_0
          refine zk_ite (fun h33 => ?_) (fun h33 => ?_)
          · have g34 := zeq h33
            exact zk_some rfl
          · have g35 := zne h33
            exact zk_some rfl
        · have g36 := zne h30
          have e37 := zt_0
          exact zk_some rfl
      · have g38 := zne h27
        have e39 := zt_40
        refine zk_ite (fun h40 => ?_) (fun h40 => ?_)
        · have g41 := zeq h40
          have e42 := zt_41
          unfold B_X7_joined_197
          refine zk_ite (fun h43 => ?_) (fun h43 => ?_)
          · have g44 := zeq h43
            have e45 := zt_0
            refine zk_ite (fun h46 => ?_) (fun h46 => ?_)
            · have g47 := zeq h46
              exact zk_some rfl
            · have g48 := zne h46
              exact zk_some rfl
          · have g49 := zne h43
            have e50 := zt_0
            exact zk_some rfl
        · have g51 := zne h40
          have e52 := zt_41
          refine zk_ite (fun h53 => ?_) (fun h53 => ?_)
          · have g54 := zeq h53
            have e55 := zt_42
            exact zk_some rfl
          · have g56 := zne h53
            have e57 := zt_42
            refine zk_ite (fun h58 => ?_) (fun h58 => ?_)
            · have g59 := zeq h58
              have e60 := zt_43
              exact zk_some rfl
            · have g61 := zne h58
              have e62 := zt_43
              refine zk_ite (fun h63 => ?_) (fun h63 => ?_)
              · have g64 := zeq h63
                have e65 := zt_44
                unfold B_X7_joined_197
                refine zk_ite (fun h66 => ?_) (fun h66 => ?_)
                · have g67 := zeq h66
                  have e68 := zt_0
                  refine zk_ite (fun h69 => ?_) (fun h69 => ?_)
                  · have g70 := zeq h69
                    exact zk_some rfl
                  · have g71 := zne h69
                    exact zk_some rfl
                · have g72 := zne h66
                  have e73 := zt_0
                  exact zk_some rfl
              · have g74 := zne h63
                have e75 := zt_44
                refine zk_ite (fun h76 => ?_) (fun h76 => ?_)
                · have g77 := zeq h76
                  have e78 := zt_45
                  exact zk_some rfl
                · have g79 := zne h76
                  have e80 := zt_45
                  refine zk_ite (fun h81 => ?_) (fun h81 => ?_)
                  · have g82 := zeq h81
                    have e83 := zt_46
                    unfold B_X7_joined_197
                    refine zk_ite (fun h84 => ?_) (fun h84 => ?_)
                    · have g85 := zeq h84
                      have e86 := zt_0
                      refine zk_ite (fun h87 => ?_) (fun h87 => ?_)
                      · have g88 := zeq h87
                        exact zk_some rfl
                      · have g89 := zne h87
                        exact zk_some rfl
                    · have g90 := zne h84
                      have e91 := zt_0
                      exact zk_some rfl
                  · have g92 := zne h81
                    have e93 := zt_46
                    refine zk_ite (fun h94 => ?_) (fun h94 => ?_)
                    · have g95 := zeq h94
                      have e96 := zt_47
                      refine zk_ite (fun h97 => ?_) (fun h97 => ?_)
                      · have g98 := zeq h97
                        have e99 := zt_0
                        exact zk_some rfl
                      · have g100 := zne h97
                        have e101 := zt_0
                        refine zk_ite (fun h102 => ?_) (fun h102 => ?_)
                        · have g103 := zeq h102
                          have e104 := zt_m1
                          exact zk_some rfl
                        · have g105 := zne h102
                          have e106 := zt_m1
                          refine zk_nz (by first | assumption | omega) ?_
                          exact zk_some rfl
                    · have g107 := zne h94
                      have e108 := zt_47
                      refine zk_ite (fun h109 => ?_) (fun h109 => ?_)
                      · have g110 := zeq h109
                        have e111 := zt_48
                        unfold B_X7_joined_197
                        refine zk_ite (fun h112 => ?_) (fun h112 => ?_)
                        · have g113 := zeq h112
                          have e114 := zt_0
                          refine zk_ite (fun h115 => ?_) (fun h115 => ?_)
                          · have g116 := zeq h115
                            exact zk_some rfl
                          · have g117 := zne h115
                            exact zk_some rfl
                        · have g118 := zne h112
                          have e119 := zt_0
                          exact zk_some rfl
                      · have g120 := zne h109
                        have e121 := zt_48
                        refine zk_ite (fun h122 => ?_) (fun h122 => ?_)
                        · have g123 := zeq h122
                          have e124 := zt_49
                          unfold B_X7_joined_197
                          refine zk_ite (fun h125 => ?_) (fun h125 => ?_)
                          · have g126 := zeq h125
                            have e127 := zt_0
                            refine zk_ite (fun h128 => ?_) (fun h128 => ?_)
                            · have g129 := zeq h128
                              exact zk_some rfl
                            · have g130 := zne h128
                              exact zk_some rfl
                          · have g131 := zne h125
                            have e132 := zt_0
                            exact zk_some rfl
                        · have g133 := zne h122
                          have e134 := zt_49
                          refine zk_ite (fun h135 => ?_) (fun h135 => ?_)
                          · have g136 := zeq h135
                            have e137 := zt_50
                            unfold B_X7_joined_197
                            refine zk_ite (fun h138 => ?_) (fun h138 => ?_)
                            · have g139 := zeq h138
                              have e140 := zt_0
                              refine zk_ite (fun h141 => ?_) (fun h141 => ?_)
                              · have g142 := zeq h141
                                exact zk_some rfl
                              · have g143 := zne h141
                                exact zk_some rfl
                            · have g144 := zne h138
                              have e145 := zt_0
                              exact zk_some rfl
                          · have g146 := zne h135
                            have e147 := zt_50
                            refine zk_ite (fun h148 => ?_) (fun h148 => ?_)
                            · have g149 := zeq h148
                              have e150 := zt_51
                              unfold B_X7_joined_197
                              refine zk_ite (fun h151 => ?_) (fun h151 => ?_)
                              · have g152 := zeq h151
                                have e153 := zt_0
                                refine zk_ite (fun h154 => ?_) (fun h154 => ?_)
                                · have g155 := zeq h154
                                  exact zk_some rfl
                                · have g156 := zne h154
                                  exact zk_some rfl
                              · have g157 := zne h151
                                have e158 := zt_0
                                exact zk_some rfl
                            · have g159 := zne h148
                              have e160 := zt_51
                              refine zk_ite (fun h161 => ?_) (fun h161 => ?_)
                              · have g162 := zeq h161
                                have e163 := zt_52
                                unfold B_X7_joined_197
                                refine zk_ite (fun h164 => ?_) (fun h164 => ?_)
                                · have g165 := zeq h164
                                  have e166 := zt_0
                                  refine zk_ite (fun h167 => ?_) (fun h167 => ?_)
                                  · have g168 := zeq h167
                                    exact zk_some rfl
                                  · have g169 := zne h167
                                    exact zk_some rfl
                                · have g170 := zne h164
                                  have e171 := zt_0
                                  exact zk_some rfl
                              · have g172 := zne h161
                                have e173 := zt_52
                                refine zk_ite (fun h174 => ?_) (fun h174 => ?_)
                                · have g175 := zeq h174
                                  have e176 := zt_53
                                  unfold B_X7_joined_197
                                  refine zk_ite (fun h177 => ?_) (fun h177 => ?_)
                                  · have g178 := zeq h177
                                    have e179 := zt_0
                                    refine zk_ite (fun h180 => ?_) (fun h180 => ?_)
                                    · have g181 := zeq h180
                                      exact zk_some rfl
                                    · have g182 := zne h180
                                      exact zk_some rfl
                                  · have g183 := zne h177
                                    have e184 := zt_0
                                    exact zk_some rfl
                                · have g185 := zne h174
                                  have e186 := zt_53
                                  refine zk_ite (fun h187 => ?_) (fun h187 => ?_)
                                  · have g188 := zeq h187
                                    have e189 := zt_54
                                    unfold B_X7_joined_197
                                    refine zk_ite (fun h190 => ?_) (fun h190 => ?_)
                                    · have g191 := zeq h190
                                      have e192 := zt_0
                                      refine zk_ite (fun h193 => ?_) (fun h193 => ?_)
                                      · have g194 := zeq h193
                                        exact zk_some rfl
                                      · have g195 := zne h193
                                        exact zk_some rfl
                                    · have g196 := zne h190
                                      have e197 := zt_0
                                      exact zk_some rfl
                                  · have g198 := zne h187
                                    have e199 := zt_54
                                    refine zk_ite (fun h200 => ?_) (fun h200 => ?_)
                                    · have g201 := zeq h200
                                      have e202 := zt_55
                                      unfold B_X7_joined_197
                                      refine zk_ite (fun h203 => ?_) (fun h203 => ?_)
                                      · have g204 := zeq h203
                                        have e205 := zt_0
                                        refine zk_ite (fun h206 => ?_) (fun h206 => ?_)
                                        · have g207 := zeq h206
                                          exact zk_some rfl
                                        · have g208 := zne h206
                                          exact zk_some rfl
                                      · have g209 := zne h203
                                        have e210 := zt_0
                                        exact zk_some rfl
                                    · have g211 := zne h200
                                      have e212 := zt_55
                                      refine zk_ite (fun h213 => ?_) (fun h213 => ?_)
                                      · have g214 := zeq h213
                                        have e215 := zt_56
                                        unfold B_X7_joined_197
                                        refine zk_ite (fun h216 => ?_) (fun h216 => ?_)
                                        · have g217 := zeq h216
                                          have e218 := zt_0
                                          refine zk_ite (fun h219 => ?_) (fun h219 => ?_)
                                          · have g220 := zeq h219
                                            exact zk_some rfl
                                          · have g221 := zne h219
                                            exact zk_some rfl
                                        · have g222 := zne h216
                                          have e223 := zt_0
                                          exact zk_some rfl
                                      · have g224 := zne h213
                                        have e225 := zt_56
                                        refine zk_ite (fun h226 => ?_) (fun h226 => ?_)
                                        · have g227 := zeq h226
                                          have e228 := zt_57
                                          unfold B_X7_joined_197
                                          refine zk_ite (fun h229 => ?_) (fun h229 => ?_)
                                          · have g230 := zeq h229
                                            have e231 := zt_0
                                            refine zk_ite (fun h232 => ?_) (fun h232 => ?_)
                                            · have g233 := zeq h232
                                              exact zk_some rfl
                                            · have g234 := zne h232
                                              exact zk_some rfl
                                          · have g235 := zne h229
                                            have e236 := zt_0
                                            exact zk_some rfl
                                        · have g237 := zne h226
                                          have e238 := zt_57
                                          refine zk_ite (fun h239 => ?_) (fun h239 => ?_)
                                          · have g240 := zeq h239
                                            have e241 := zt_58
                                            unfold B_X7_joined_197
                                            refine zk_ite (fun h242 => ?_) (fun h242 => ?_)
                                            · have g243 := zeq h242
                                              have e244 := zt_0
                                              refine zk_ite (fun h245 => ?_) (fun h245 => ?_)
                                              · have g246 := zeq h245
                                                exact zk_some rfl
                                              · have g247 := zne h245
                                                exact zk_some rfl
                                            · have g248 := zne h242
                                              have e249 := zt_0
                                              exact zk_some rfl
                                          · have g250 := zne h239
                                            have e251 := zt_58
                                            refine zk_ite (fun h252 => ?_) (fun h252 => ?_)
                                            · have g253 := zeq h252
                                              have e254 := zt_59
                                              unfold B_X7_joined_197
                                              refine zk_ite (fun h255 => ?_) (fun h255 => ?_)
                                              · have g256 := zeq h255
                                                have e257 := zt_0
                                                refine zk_ite (fun h258 => ?_) (fun h258 => ?_)
                                                · have g259 := zeq h258
                                                  exact zk_some rfl
                                                · have g260 := zne h258
                                                  exact zk_some rfl
                                              · have g261 := zne h255
                                                have e262 := zt_0
                                                exact zk_some rfl
                                            · have g263 := zne h252
                                              have e264 := zt_59
                                              refine zk_ite (fun h265 => ?_) (fun h265 => ?_)
                                              · have g266 := zeq h265
                                                have e267 := zt_60
                                                refine zk_ite (fun h268 => ?_) (fun h268 => ?_)
                                                · have g269 := zle h268
                                                  exact zk_some rfl
                                                · have g270 := znle h268
                                                  exact zk_some rfl
                                              · have g271 := zne h265
                                                have e272 := zt_60
                                                refine zk_ite (fun h273 => ?_) (fun h273 => ?_)
                                                · have g274 := zeq h273
                                                  have e275 := zt_61
                                                  refine zk_ite (fun h276 => ?_) (fun h276 => ?_)
                                                  · have g277 := zeq h276
                                                    exact zk_some rfl
                                                  · have g278 := zne h276
                                                    exact zk_some rfl
                                                · have g279 := zne h273
                                                  have e280 := zt_61
                                                  refine zk_ite (fun h281 => ?_) (fun h281 => ?_)
                                                  · have g282 := zeq h281
                                                    have e283 := zt_62
                                                    refine zk_ite (fun h284 => ?_) (fun h284 => ?_)
                                                    · have g285 := zle h284
                                                      exact zk_some rfl
                                                    · have g286 := znle h284
                                                      exact zk_some rfl
                                                  · have g287 := zne h281
                                                    have e288 := zt_62
                                                    unfold B_X7_joined_197
                                                    refine zk_ite (fun h289 => ?_) (fun h289 => ?_)
                                                    · have g290 := zeq h289
                                                      have e291 := zt_0
                                                      refine zk_ite (fun h292 => ?_) (fun h292 => ?_)
                                                      · have g293 := zeq h292
                                                        exact zk_some rfl
                                                      · have g294 := zne h292
                                                        exact zk_some rfl
                                                    · have g295 := zne h289
                                                      have e296 := zt_0
                                                      exact zk_some rfl
end
section
theorem zTn {a : Int32} {v : Int} {n : Nat} (h : zT a v) (e : v = n) : a.toNatClampNeg = n := by
  unfold zT at h
  show a.toInt.toNat = n
  omega
set_option maxHeartbeats 1000000 in
theorem s_X7_worked (a1 : Int32) (σ : zg_S) (hσ : IMc σ) (hW : WF (σ 1)) (h0 : 0 ≤ a1.toInt) (h1 : a1.toInt < (σ 1 1).toInt) : zk (f_X7_worked a1 σ) (fun r s => IMc s ∧ hi σ s) := by
  have f11 : 0 ≤ (σ 1 1).toInt ∧ (σ 1 1).toInt ≤ 14 := hσ 1 1
  have e0 := zt_0
  have e1 := zt_1
  obtain ⟨t, ht⟩ : ∃ t : Nat, a1.toInt = t := ⟨a1.toInt.toNat, by omega⟩
  obtain ⟨w1, w2, w3⟩ := hW t (by omega)
  generalize hb : 47 + 200 * t = b at w1 w2 w3
  have hm0 := ztn w1
  generalize hm : (σ 1 (b + 2)).toNatClampNeg = m at w3 hm0
  unfold f_X7_worked L_X7_worked_4
  refine zl_II (fun (x2 x3 : Int32) (s : zg_S) => IMc s ∧ hi σ s ∧ ∃ d k : Nat, x2.toInt = d ∧ x3.toInt = k ∧ k ≤ m ∧ d ≤ k ∧ dep (σ 1) (b + 4) k (m - k) d = some 1) (fun (_ x3 : Int32) (_ : zg_S) => (98 - x3.toInt).toNat) ?_ zfu _ _ _ ⟨hσ, hi.rf, 0, 0, by omega, by omega, by omega, by omega, w3⟩ (by unfold zfu; omega)
  intro rec x2 x3 s hI ih
  obtain ⟨hs, hh, d, k, ed, ek, km, dk, hd⟩ := hI
  unfold B_X7_worked_4
  refine zk_call (s_X7_textAt a1 s hs h0 (by omega)) (fun r s1 hp => ?_)
  obtain ⟨rfl, er⟩ := hp
  have p2 := zTadd (zTl er) (zTl zt_2) (by omega) (by omega)
  refine zk_in (zin_mkT p2 (by omega) (by omega)) ?_
  have n2 : (r + 2).toNatClampNeg = b + 2 := zTn p2 (by omega)
  rw [n2, hh.2.1 (b + 2) (by omega)]
  refine zk_ite (fun _ => zk_some ⟨hs, hh⟩) (fun h => ?_)
  have g := znle h
  refine zk_call (s_X7_textAt a1 s hs h0 (by omega)) (fun r1 s1 hp => ?_)
  obtain ⟨rfl, er1⟩ := hp
  have p4 := zTadd (zTadd (zTl er1) (zTl zt_4) (by omega) (by omega)) (zTmul (zTl zt_2) (zTl ek) (by omega) (by omega)) (by omega) (by omega)
  refine zk_in (zin_mkT p4 (by omega) (by omega)) ?_
  refine zk_let (fun y46 ey46 => ?_)
  rw [zTn (n := b + 4 + 2 * k) p4 (by omega), hh.2.1 _ (by omega)] at ey46
  refine zk_call (s_X7_textAt a1 s hs h0 (by omega)) (fun r2 s1 hp => ?_)
  obtain ⟨rfl, er2⟩ := hp
  have p5 := zTadd (zTadd (zTadd (zTl er2) (zTl zt_4) (by omega) (by omega)) (zTmul (zTl zt_2) (zTl ek) (by omega) (by omega)) (by omega) (by omega)) (zTl zt_1) (by omega) (by omega)
  refine zk_in (zin_mkT p5 (by omega) (by omega)) ?_
  refine zk_let (fun y61 ey61 => ?_)
  rw [zTn (n := b + 4 + 2 * k + 1) p5 (by omega), hh.2.1 _ (by omega)] at ey61
  obtain ⟨n, hn⟩ : ∃ n, m - k = n + 1 := ⟨m - k - 1, by omega⟩
  rw [hn, dep, ← ey46, ← ey61] at hd
  have hn1 : m - (k + 1) = n := by omega
  have ex3 := zTe (zTadd (zTl ek) (zTl zt_1) (by omega) (by omega))
  have mu : (98 - (x3 + 1).toInt).toNat < (98 - x3.toInt).toNat := by rw [ex3]; omega
  refine zk_ite (fun h2 => ?_) (fun h2 => ?_)
  · rw [if_pos h2] at hd
    refine zk_ite (fun h33 => ?_) (fun h33 => ?_)
    · rw [if_pos h33] at hd
      obtain ⟨hd1, hd⟩ := zC hd
      have z : zin (x2 - 1) 100 = true := zin_mkT (zTsub (zTl ed) (zTl zt_1) (by omega) (by omega)) (by omega) (by omega)
      refine zk_in z ?_
      have b123 : ∀ v : Int32, zk (B_X7_worked_123 a1 rec x2 x3 v (x2 - 1) s) (fun r s => IMc s ∧ hi σ s) := by
        intro v
        unfold B_X7_worked_123
        refine zk_in z (zk_let (fun s2 q2 => ?_))
        unfold B_X7_worked_157
        exact ih x2 (x3 + 1) s2 ⟨by rw [q2]; exact IMc.up hs (zTs v) trivial, by rw [q2]; exact hi.upo hh rfl, d, k + 1, ed, by rw [ex3]; omega, by omega, by omega, by rw [hn1]; exact hd⟩ mu
      exact zk_ite (fun _ => b123 1) (fun _ => b123 0)
    · rw [if_neg h33] at hd
      obtain ⟨hd2, hd⟩ := zC hd
      have pm := zTadd (zTl ed) (zTl zt_m1) (by omega) (by omega)
      refine zk_in (zin_mkT (zTsub pm (zTl zt_1) (by omega) (by omega)) (by omega) (by omega)) ?_
      refine zk_in (zin_mkT pm (by omega) (by omega)) ?_
      refine zk_call (s_X7_joined _ _ _ s hs) (fun r3 s3 hp => ?_)
      subst hp
      refine zk_let (fun s2 q2 => ?_)
      unfold B_X7_worked_157
      exact ih (x2 + (-1)) (x3 + 1) s2 ⟨by rw [q2]; exact IMc.up hs (zTs _) trivial, by rw [q2]; exact hi.upo hh rfl, d - 1, k + 1, by rw [zTe pm]; omega, by rw [ex3]; omega, by omega, by omega, by rw [hn1]; exact hd⟩ mu
  · rw [if_neg h2] at hd
    obtain ⟨hc, hd⟩ := zC hd
    have b86 : ∀ v : Int32, zk (B_X7_worked_86 a1 rec x2 x3 v x2 s) (fun r s => IMc s ∧ hi σ s) := by
      intro v
      unfold B_X7_worked_86
      refine zk_in (zin_mkT (zTl ed) (by omega) (by omega)) (zk_let (fun s2 q2 => ?_))
      unfold B_X7_worked_157
      exact ih (x2 + 1) (x3 + 1) s2 ⟨by rw [q2]; exact IMc.up hs (zTs v) trivial, by rw [q2]; exact hi.upo hh rfl, d + 1, k + 1, by rw [zTe (zTadd (zTl ed) (zTl zt_1) (by omega) (by omega))]; omega, by rw [ex3]; omega, by omega, by omega, by rw [hn1]; exact hd⟩ mu
    refine zk_ite (fun _ => b86 y61) (fun h0' => ?_)
    have hc := hc.resolve_left h0'
    exact zk_in (zin_mk hc.1 (by omega)) (b86 _)

set_option maxHeartbeats 400000 in
theorem s_X7_melts (a1 : Int32) (σ : zg_S) (hσ : IMc σ) (hW : WF (σ 1)) (hp0_ : 0 ≤ a1.toInt) (hp1_ : a1.toInt ≤ 8) : zk (f_X7_melts a1 σ) (fun r s => IMc s ∧ hi σ s) := by
  unfold f_X7_melts
  have e1 := zt_0
  refine zk_call (s_X7_counts 0 σ hσ ) (fun r1 σ2 hp2 => ?_)
  obtain ⟨rfl, x3, x4⟩ := hp2
  have f5 : 0 ≤ (σ 1 1).toInt ∧ (σ 1 1).toInt ≤ 14 := IMf hσ 1 1
  refine zk_ite (fun h6 => ?_) (fun h6 => ?_)
  · have g7 := zle h6
    refine zk_call (s_X7_heat σ hσ ) (fun r12 σ13 hp8 => ?_)
    subst hp8
    refine zk_let (fun σ19 q11 => ?_)
    have hS9 : IMc σ19 := by rw [q11]; exact IMc.up hσ (zTs r12) trivial
    have hH10 : hi σ σ19 := by rw [q11]; exact hi.upo hi.rf rfl
    have e12 := zt_2
    refine zk_call (s_X7_of a1 2 σ19 hS9 (by omega) (by omega) (by omega) (by omega)) (fun r25 σ26 hp13 => ?_)
    subst hp13
    refine zk_let (fun σ32 q16 => ?_)
    have hS14 : IMc σ32 := by rw [q16]; exact IMc.up hS9 (zTs r25) trivial
    have hH15 : hi σ σ32 := by rw [q16]; exact hi.upo hH10 rfl
    have e17 := zt_3
    refine zk_call (s_X7_of a1 3 σ32 hS14 (by omega) (by omega) (by omega) (by omega)) (fun r38 σ39 hp18 => ?_)
    subst hp18
    refine zk_let (fun σ45 q21 => ?_)
    have hS19 : IMc σ45 := by rw [q21]; exact IMc.up hS14 (zTs r38) trivial
    have hH20 : hi σ σ45 := by rw [q21]; exact hi.upo hH15 rfl
    have f22 : 0 ≤ (σ45 1 1).toInt ∧ (σ45 1 1).toInt ≤ 14 := IMf hS19 1 1
    have g23 := congrArg Int32.toInt (hH20).1
    refine zk_call (s_X7_worked r1 σ45 hS19 (WF.hi hW hH20) (by omega) (by omega)) (fun r51 σ52 hp24 => ?_)
    obtain ⟨hS25, hH26⟩ := hp24
    refine zk_call (s_X7_of a1 2 σ52 hS25 (by omega) (by omega) (by omega) (by omega)) (fun r58 σ59 hp27 => ?_)
    subst hp27
    refine zk_call (s_X7_within r51 r58 σ52 hS25 ) (fun r65 σ66 hp28 => ?_)
    subst hp28
    exact zk_some ⟨hS25, (hH20.tr hH26)⟩
  · have g29 := znle h6
    refine zk_call (s_X7_heat σ hσ ) (fun r73 σ74 hp30 => ?_)
    subst hp30
    exact zk_some ⟨hσ, hi.rf⟩

set_option maxHeartbeats 400000 in
theorem s_X7_spoils (a1 : Int32) (σ : zg_S) (hσ : IMc σ) (hW : WF (σ 1)) (hp0_ : 0 ≤ a1.toInt) (hp1_ : a1.toInt ≤ 8) : zk (f_X7_spoils a1 σ) (fun r s => IMc s ∧ hi σ s) := by
  unfold f_X7_spoils
  refine zk_call (s_X7_isShaded a1 σ hσ (by omega) (by omega)) (fun r22 σ23 hp1 => ?_)
  obtain ⟨rfl, x2⟩ := hp1
  refine zk_ite (fun h3 => ?_) (fun h3 => ?_)
  · have g4 := zeq h3
    have e5 := zt_0
    refine zk_call (s_X7_of a1 0 σ hσ (by omega) (by omega) (by omega) (by omega)) (fun r31 σ32 hp6 => ?_)
    subst hp6
    refine zk_ite (fun h7 => ?_) (fun h7 => ?_)
    · have g8 := zeq h7
      refine zk_call (s_X7_melts a1 σ hσ (WF.hi hW hi.rf) (by omega) (by omega)) (fun r98 σ99 hp9 => ?_)
      obtain ⟨hS10, hH11⟩ := hp9
      unfold B_X7_spoils_109
      have e12 := zt_2
      refine zk_call (s_X7_of a1 2 σ99 hS10 (by omega) (by omega) (by omega) (by omega)) (fun r1 σ2 hp13 => ?_)
      subst hp13
      refine zk_ite (fun h14 => ?_) (fun h14 => ?_)
      · have g15 := zle h14
        exact zk_some ⟨hS10, (hi.rf.tr hH11)⟩
      · have g16 := znle h14
        refine zk_call (s_X7_of a1 2 σ99 hS10 (by omega) (by omega) (by omega) (by omega)) (fun r11 σ12 hp17 => ?_)
        subst hp17
        exact zk_some ⟨hS10, (hi.rf.tr hH11)⟩
    · have g18 := zne h7
      refine zk_call (s_X7_of a1 0 σ hσ (by omega) (by omega) (by omega) (by omega)) (fun r40 σ41 hp19 => ?_)
      subst hp19
      refine zk_ite (fun h20 => ?_) (fun h20 => ?_)
      · have g21 := zeq h20
        have e22 := zt_1
        refine zk_call (s_X7_melts a1 σ hσ (WF.hi hW hi.rf) (by omega) (by omega)) (fun r88 σ89 hp23 => ?_)
        obtain ⟨hS24, hH25⟩ := hp23
        unfold B_X7_spoils_109
        have e26 := zt_2
        refine zk_call (s_X7_of a1 2 σ89 hS24 (by omega) (by omega) (by omega) (by omega)) (fun r1 σ2 hp27 => ?_)
        subst hp27
        refine zk_ite (fun h28 => ?_) (fun h28 => ?_)
        · have g29 := zle h28
          exact zk_some ⟨hS24, (hi.rf.tr hH25)⟩
        · have g30 := znle h28
          refine zk_call (s_X7_of a1 2 σ89 hS24 (by omega) (by omega) (by omega) (by omega)) (fun r11 σ12 hp31 => ?_)
          subst hp31
          exact zk_some ⟨hS24, (hi.rf.tr hH25)⟩
      · have g32 := zne h20
        have e33 := zt_1
        refine zk_call (s_X7_of a1 0 σ hσ (by omega) (by omega) (by omega) (by omega)) (fun r49 σ50 hp34 => ?_)
        subst hp34
        refine zk_ite (fun h35 => ?_) (fun h35 => ?_)
        · have g36 := zeq h35
          have e37 := zt_3
          refine zk_call (s_X7_melts a1 σ hσ (WF.hi hW hi.rf) (by omega) (by omega)) (fun r78 σ79 hp38 => ?_)
          obtain ⟨hS39, hH40⟩ := hp38
          unfold B_X7_spoils_109
          have e41 := zt_2
          refine zk_call (s_X7_of a1 2 σ79 hS39 (by omega) (by omega) (by omega) (by omega)) (fun r1 σ2 hp42 => ?_)
          subst hp42
          refine zk_ite (fun h43 => ?_) (fun h43 => ?_)
          · have g44 := zle h43
            exact zk_some ⟨hS39, (hi.rf.tr hH40)⟩
          · have g45 := znle h43
            refine zk_call (s_X7_of a1 2 σ79 hS39 (by omega) (by omega) (by omega) (by omega)) (fun r11 σ12 hp46 => ?_)
            subst hp46
            exact zk_some ⟨hS39, (hi.rf.tr hH40)⟩
        · have g47 := zne h35
          have e48 := zt_3
          refine zk_call (s_X7_of a1 0 σ hσ (by omega) (by omega) (by omega) (by omega)) (fun r58 σ59 hp49 => ?_)
          subst hp49
          refine zk_ite (fun h50 => ?_) (fun h50 => ?_)
          · have g51 := zeq h50
            have e52 := zt_5
            refine zk_call (s_X7_melts a1 σ hσ (WF.hi hW hi.rf) (by omega) (by omega)) (fun r68 σ69 hp53 => ?_)
            obtain ⟨hS54, hH55⟩ := hp53
            unfold B_X7_spoils_109
            have e56 := zt_2
            refine zk_call (s_X7_of a1 2 σ69 hS54 (by omega) (by omega) (by omega) (by omega)) (fun r1 σ2 hp57 => ?_)
            subst hp57
            refine zk_ite (fun h58 => ?_) (fun h58 => ?_)
            · have g59 := zle h58
              exact zk_some ⟨hS54, (hi.rf.tr hH55)⟩
            · have g60 := znle h58
              refine zk_call (s_X7_of a1 2 σ69 hS54 (by omega) (by omega) (by omega) (by omega)) (fun r11 σ12 hp61 => ?_)
              subst hp61
              exact zk_some ⟨hS54, (hi.rf.tr hH55)⟩
          · have g62 := zne h50
            have e63 := zt_5
            unfold B_X7_spoils_109
            have e64 := zt_2
            refine zk_call (s_X7_of a1 2 σ hσ (by omega) (by omega) (by omega) (by omega)) (fun r1 σ2 hp65 => ?_)
            subst hp65
            refine zk_ite (fun h66 => ?_) (fun h66 => ?_)
            · have g67 := zle h66
              exact zk_some ⟨hσ, hi.rf⟩
            · have g68 := znle h66
              refine zk_call (s_X7_of a1 2 σ hσ (by omega) (by omega) (by omega) (by omega)) (fun r11 σ12 hp69 => ?_)
              subst hp69
              exact zk_some ⟨hσ, hi.rf⟩
  · have g70 := zne h3
    have e71 := zt_0
    refine zk_call (s_X7_of a1 0 σ hσ (by omega) (by omega) (by omega) (by omega)) (fun r108 σ109 hp72 => ?_)
    subst hp72
    refine zk_ite (fun h73 => ?_) (fun h73 => ?_)
    · have g74 := zeq h73
      have e75 := zt_4
      unfold B_X7_spoils_25
      unfold B_X7_spoils_109
      have e76 := zt_2
      refine zk_call (s_X7_of a1 2 σ hσ (by omega) (by omega) (by omega) (by omega)) (fun r1 σ2 hp77 => ?_)
      subst hp77
      refine zk_ite (fun h78 => ?_) (fun h78 => ?_)
      · have g79 := zle h78
        exact zk_some ⟨hσ, hi.rf⟩
      · have g80 := znle h78
        refine zk_call (s_X7_of a1 2 σ hσ (by omega) (by omega) (by omega) (by omega)) (fun r11 σ12 hp81 => ?_)
        subst hp81
        exact zk_some ⟨hσ, hi.rf⟩
    · have g82 := zne h73
      have e83 := zt_4
      unfold B_X7_spoils_25
      unfold B_X7_spoils_109
      have e84 := zt_2
      refine zk_call (s_X7_of a1 2 σ hσ (by omega) (by omega) (by omega) (by omega)) (fun r1 σ2 hp85 => ?_)
      subst hp85
      refine zk_ite (fun h86 => ?_) (fun h86 => ?_)
      · have g87 := zle h86
        exact zk_some ⟨hσ, hi.rf⟩
      · have g88 := znle h86
        refine zk_call (s_X7_of a1 2 σ hσ (by omega) (by omega) (by omega) (by omega)) (fun r11 σ12 hp89 => ?_)
        subst hp89
        exact zk_some ⟨hσ, hi.rf⟩
end
section
set_option maxHeartbeats 400000 in
theorem s_X7_hauls  (σ : zg_S) (hσ : IMc σ) (hW : WF (σ 1)) : zk (f_X7_hauls  σ) (fun r s => IMc s ∧ hi σ s) := by
  unfold f_X7_hauls
  refine zk_ite (fun h1 => ?_) (fun h1 => ?_)
  · have g2 := zeq h1
    have e3 := zt_0
    exact zk_some ⟨hσ, hi.rf⟩
  · have g4 := zne h1
    have e5 := zt_0
    refine zk_ite (fun h6 => ?_) (fun h6 => ?_)
    · have g7 := zeq h6
      have e8 := zt_2
      have e9 := zt_m1
      refine zk_call (s_X7_payIf (-1) σ hσ ) (fun r101 σ102 hp10 => ?_)
      obtain ⟨hS11, hH12⟩ := hp10
      refine zk_call (s_X7_payIf 0 σ102 hS11 ) (fun r110 σ111 hp13 => ?_)
      obtain ⟨hS14, hH15⟩ := hp13
      refine zk_ite (fun h16 => ?_) (fun h16 => ?_)
      · have g17 := zle h16
        unfold B_X7_hauls_43
        have e18 := zt_1
        refine zk_call (s_X7_payIf 1 σ111 hS14 ) (fun r75 σ76 hp19 => ?_)
        obtain ⟨hS20, hH21⟩ := hp19
        refine zk_call (s_X7_payIf 0 σ76 hS20 ) (fun r82 σ83 hp22 => ?_)
        obtain ⟨hS23, hH24⟩ := hp22
        refine zk_ite (fun h25 => ?_) (fun h25 => ?_)
        · have g26 := zle h25
          exact zk_some ⟨hS23, ((((hi.rf.tr hH12).tr hH15).tr hH21).tr hH24)⟩
        · have g27 := znle h25
          exact zk_some ⟨hS23, ((((hi.rf.tr hH12).tr hH15).tr hH21).tr hH24)⟩
      · have g28 := znle h16
        unfold B_X7_hauls_43
        have e29 := zt_1
        refine zk_call (s_X7_payIf 1 σ111 hS14 ) (fun r75 σ76 hp30 => ?_)
        obtain ⟨hS31, hH32⟩ := hp30
        refine zk_call (s_X7_payIf (-1) σ76 hS31 ) (fun r82 σ83 hp33 => ?_)
        obtain ⟨hS34, hH35⟩ := hp33
        refine zk_ite (fun h36 => ?_) (fun h36 => ?_)
        · have g37 := zle h36
          exact zk_some ⟨hS34, ((((hi.rf.tr hH12).tr hH15).tr hH32).tr hH35)⟩
        · have g38 := znle h36
          exact zk_some ⟨hS34, ((((hi.rf.tr hH12).tr hH15).tr hH32).tr hH35)⟩
    · have g39 := zne h6
      have e40 := zt_2
      have e41 := zt_m1
      unfold L_X7_hauls_67
      refine zl_II (fun (x1 : Int32) (x2 : Int32) (s67_ : zg_S) => IMc s67_ ∧ hi σ s67_ ∧ -1 ≤ x1.toInt ∧ x1.toInt ≤ 8 ∧ 0 ≤ x2.toInt ∧ x2.toInt ≤ 9) (fun (x1 : Int32) (x2 : Int32) (s67_ : zg_S) => (9 - x2.toInt).toNat) ?_ zfu (-1) 0 σ ⟨hσ, hi.rf, (by omega), (by omega), (by omega), (by omega)⟩ (by unfold zfu; omega)
      intro rec67_ x1 x2 s67_ hI42 ih67_
      obtain ⟨hS43, hH44, i45, i46, i47, i48⟩ := hI42
      unfold B_X7_hauls_67
      refine zk_ite (fun h49 => ?_) (fun h49 => ?_)
      · have g50 := zle h49
        have f51 : 0 ≤ (s67_ 1 0).toInt ∧ (s67_ 1 0).toInt ≤ 9 := IMf hS43 1 0
        refine zk_ite (fun h52 => ?_) (fun h52 => ?_)
        · have g53 := zle h52
          have e54 := zt_0
          have e55 := zt_1
          refine zk_call (s_X7_of x1 1 s67_ hS43 (by omega) (by omega) (by omega) (by omega)) (fun r34 σ35 hp56 => ?_)
          subst hp56
          refine zk_call (s_X7_shadeFrom s67_ hS43 ) (fun r41 σ42 hp57 => ?_)
          subst hp57
          refine zk_ite (fun h58 => ?_) (fun h58 => ?_)
          · have g59 := zle h58
            exact zk_some ⟨hS43, hH44⟩
          · have g60 := znle h58
            exact zk_some ⟨hS43, hH44⟩
        · have g61 := znle h52
          have e62 := zt_0
          exact zk_some ⟨hS43, hH44⟩
      · have g63 := znle h49
        have f64 : 0 ≤ (s67_ 1 0).toInt ∧ (s67_ 1 0).toInt ≤ 9 := IMf hS43 1 0
        refine zk_call (s_X7_isShaded x2 s67_ hS43 (by omega) (by omega)) (fun r53 σ54 hp65 => ?_)
        obtain ⟨rfl, x66⟩ := hp65
        refine zk_ite (fun h67 => ?_) (fun h67 => ?_)
        · have g68 := zeq h67
          have e69 := zt_0
          refine zk_call (s_X7_spoils x2 s67_ hS43 (WF.hi hW hH44) (by omega) (by omega)) (fun r63 σ64 hp70 => ?_)
          obtain ⟨hS71, hH72⟩ := hp70
          refine zk_ite (fun h73 => ?_) (fun h73 => ?_)
          · have g74 := zle h73
            unfold B_X7_hauls_97
            unfold B_X7_hauls_98
            refine zk_ite (fun h75 => ?_) (fun h75 => ?_)
            · have g76 := zeq h75
              unfold B_X7_hauls_124
              unfold B_X7_hauls_125
              exact ih67_ x1 (x2 + 1) σ64 ⟨hS71, (hH44.tr hH72), (by omega), (by omega), (by rw [zTe (zTadd (zTs x2) (zTl zt_1) (by omega) (by omega))]; omega), (by rw [zTe (zTadd (zTs x2) (zTl zt_1) (by omega) (by omega))]; omega)⟩ (by show (9 - (x2 + 1).toInt).toNat < (9 - x2.toInt).toNat; rw [zTe (zTadd (zTs x2) (zTl zt_1) (by omega) (by omega))]; omega)
            · have g77 := zne h75
              refine zk_ite (fun h78 => ?_) (fun h78 => ?_)
              · have g79 := zlt h78
                unfold B_X7_hauls_120
                unfold B_X7_hauls_125
                exact ih67_ x2 (x2 + 1) σ64 ⟨hS71, (hH44.tr hH72), (by omega), (by omega), (by rw [zTe (zTadd (zTs x2) (zTl zt_1) (by omega) (by omega))]; omega), (by rw [zTe (zTadd (zTs x2) (zTl zt_1) (by omega) (by omega))]; omega)⟩ (by show (9 - (x2 + 1).toInt).toNat < (9 - x2.toInt).toNat; rw [zTe (zTadd (zTs x2) (zTl zt_1) (by omega) (by omega))]; omega)
              · have g80 := znlt h78
                refine zk_call (s_X7_spoils x2 σ64 hS71 (WF.hi hW (hH44.tr hH72)) (by omega) (by omega)) (fun r13 σ14 hp81 => ?_)
                obtain ⟨hS82, hH83⟩ := hp81
                refine zk_call (s_X7_spoils x1 σ14 hS82 (WF.hi hW ((hH44.tr hH72).tr hH83)) (by omega) (by omega)) (fun r20 σ21 hp84 => ?_)
                obtain ⟨hS85, hH86⟩ := hp84
                refine zk_ite (fun h87 => ?_) (fun h87 => ?_)
                · have g88 := zle h87
                  unfold B_X7_hauls_124
                  unfold B_X7_hauls_125
                  exact ih67_ x1 (x2 + 1) σ21 ⟨hS85, (((hH44.tr hH72).tr hH83).tr hH86), (by omega), (by omega), (by rw [zTe (zTadd (zTs x2) (zTl zt_1) (by omega) (by omega))]; omega), (by rw [zTe (zTadd (zTs x2) (zTl zt_1) (by omega) (by omega))]; omega)⟩ (by show (9 - (x2 + 1).toInt).toNat < (9 - x2.toInt).toNat; rw [zTe (zTadd (zTs x2) (zTl zt_1) (by omega) (by omega))]; omega)
                · have g89 := znle h87
                  unfold B_X7_hauls_120
                  unfold B_X7_hauls_125
                  exact ih67_ x2 (x2 + 1) σ21 ⟨hS85, (((hH44.tr hH72).tr hH83).tr hH86), (by omega), (by omega), (by rw [zTe (zTadd (zTs x2) (zTl zt_1) (by omega) (by omega))]; omega), (by rw [zTe (zTadd (zTs x2) (zTl zt_1) (by omega) (by omega))]; omega)⟩ (by show (9 - (x2 + 1).toInt).toNat < (9 - x2.toInt).toNat; rw [zTe (zTadd (zTs x2) (zTl zt_1) (by omega) (by omega))]; omega)
          · have g90 := znle h73
            unfold B_X7_hauls_98
            refine zk_ite (fun h91 => ?_) (fun h91 => ?_)
            · have g92 := zeq h91
              have e93 := zt_1
              unfold B_X7_hauls_124
              unfold B_X7_hauls_125
              exact ih67_ x1 (x2 + 1) σ64 ⟨hS71, (hH44.tr hH72), (by omega), (by omega), (by rw [zTe (zTadd (zTs x2) (zTl zt_1) (by omega) (by omega))]; omega), (by rw [zTe (zTadd (zTs x2) (zTl zt_1) (by omega) (by omega))]; omega)⟩ (by show (9 - (x2 + 1).toInt).toNat < (9 - x2.toInt).toNat; rw [zTe (zTadd (zTs x2) (zTl zt_1) (by omega) (by omega))]; omega)
            · have g94 := zne h91
              have e95 := zt_1
              refine zk_ite (fun h96 => ?_) (fun h96 => ?_)
              · have g97 := zlt h96
                unfold B_X7_hauls_120
                unfold B_X7_hauls_125
                exact ih67_ x2 (x2 + 1) σ64 ⟨hS71, (hH44.tr hH72), (by omega), (by omega), (by rw [zTe (zTadd (zTs x2) (zTl zt_1) (by omega) (by omega))]; omega), (by rw [zTe (zTadd (zTs x2) (zTl zt_1) (by omega) (by omega))]; omega)⟩ (by show (9 - (x2 + 1).toInt).toNat < (9 - x2.toInt).toNat; rw [zTe (zTadd (zTs x2) (zTl zt_1) (by omega) (by omega))]; omega)
              · have g98 := znlt h96
                refine zk_call (s_X7_spoils x2 σ64 hS71 (WF.hi hW (hH44.tr hH72)) (by omega) (by omega)) (fun r13 σ14 hp99 => ?_)
                obtain ⟨hS100, hH101⟩ := hp99
                refine zk_call (s_X7_spoils x1 σ14 hS100 (WF.hi hW ((hH44.tr hH72).tr hH101)) (by omega) (by omega)) (fun r20 σ21 hp102 => ?_)
                obtain ⟨hS103, hH104⟩ := hp102
                refine zk_ite (fun h105 => ?_) (fun h105 => ?_)
                · have g106 := zle h105
                  unfold B_X7_hauls_124
                  unfold B_X7_hauls_125
                  exact ih67_ x1 (x2 + 1) σ21 ⟨hS103, (((hH44.tr hH72).tr hH101).tr hH104), (by omega), (by omega), (by rw [zTe (zTadd (zTs x2) (zTl zt_1) (by omega) (by omega))]; omega), (by rw [zTe (zTadd (zTs x2) (zTl zt_1) (by omega) (by omega))]; omega)⟩ (by show (9 - (x2 + 1).toInt).toNat < (9 - x2.toInt).toNat; rw [zTe (zTadd (zTs x2) (zTl zt_1) (by omega) (by omega))]; omega)
                · have g107 := znle h105
                  unfold B_X7_hauls_120
                  unfold B_X7_hauls_125
                  exact ih67_ x2 (x2 + 1) σ21 ⟨hS103, (((hH44.tr hH72).tr hH101).tr hH104), (by omega), (by omega), (by rw [zTe (zTadd (zTs x2) (zTl zt_1) (by omega) (by omega))]; omega), (by rw [zTe (zTadd (zTs x2) (zTl zt_1) (by omega) (by omega))]; omega)⟩ (by show (9 - (x2 + 1).toInt).toNat < (9 - x2.toInt).toNat; rw [zTe (zTadd (zTs x2) (zTl zt_1) (by omega) (by omega))]; omega)
        · have g108 := zne h67
          have e109 := zt_0
          unfold B_X7_hauls_97
          unfold B_X7_hauls_98
          refine zk_ite (fun h110 => ?_) (fun h110 => ?_)
          · have g111 := zeq h110
            unfold B_X7_hauls_124
            unfold B_X7_hauls_125
            exact ih67_ x1 (x2 + 1) s67_ ⟨hS43, hH44, (by omega), (by omega), (by rw [zTe (zTadd (zTs x2) (zTl zt_1) (by omega) (by omega))]; omega), (by rw [zTe (zTadd (zTs x2) (zTl zt_1) (by omega) (by omega))]; omega)⟩ (by show (9 - (x2 + 1).toInt).toNat < (9 - x2.toInt).toNat; rw [zTe (zTadd (zTs x2) (zTl zt_1) (by omega) (by omega))]; omega)
          · have g112 := zne h110
            refine zk_ite (fun h113 => ?_) (fun h113 => ?_)
            · have g114 := zlt h113
              unfold B_X7_hauls_120
              unfold B_X7_hauls_125
              exact ih67_ x2 (x2 + 1) s67_ ⟨hS43, hH44, (by omega), (by omega), (by rw [zTe (zTadd (zTs x2) (zTl zt_1) (by omega) (by omega))]; omega), (by rw [zTe (zTadd (zTs x2) (zTl zt_1) (by omega) (by omega))]; omega)⟩ (by show (9 - (x2 + 1).toInt).toNat < (9 - x2.toInt).toNat; rw [zTe (zTadd (zTs x2) (zTl zt_1) (by omega) (by omega))]; omega)
            · have g115 := znlt h113
              refine zk_call (s_X7_spoils x2 s67_ hS43 (WF.hi hW hH44) (by omega) (by omega)) (fun r13 σ14 hp116 => ?_)
              obtain ⟨hS117, hH118⟩ := hp116
              refine zk_call (s_X7_spoils x1 σ14 hS117 (WF.hi hW (hH44.tr hH118)) (by omega) (by omega)) (fun r20 σ21 hp119 => ?_)
              obtain ⟨hS120, hH121⟩ := hp119
              refine zk_ite (fun h122 => ?_) (fun h122 => ?_)
              · have g123 := zle h122
                unfold B_X7_hauls_124
                unfold B_X7_hauls_125
                exact ih67_ x1 (x2 + 1) σ21 ⟨hS120, ((hH44.tr hH118).tr hH121), (by omega), (by omega), (by rw [zTe (zTadd (zTs x2) (zTl zt_1) (by omega) (by omega))]; omega), (by rw [zTe (zTadd (zTs x2) (zTl zt_1) (by omega) (by omega))]; omega)⟩ (by show (9 - (x2 + 1).toInt).toNat < (9 - x2.toInt).toNat; rw [zTe (zTadd (zTs x2) (zTl zt_1) (by omega) (by omega))]; omega)
              · have g124 := znle h122
                unfold B_X7_hauls_120
                unfold B_X7_hauls_125
                exact ih67_ x2 (x2 + 1) σ21 ⟨hS120, ((hH44.tr hH118).tr hH121), (by omega), (by omega), (by rw [zTe (zTadd (zTs x2) (zTl zt_1) (by omega) (by omega))]; omega), (by rw [zTe (zTadd (zTs x2) (zTl zt_1) (by omega) (by omega))]; omega)⟩ (by show (9 - (x2 + 1).toInt).toNat < (9 - x2.toInt).toNat; rw [zTe (zTadd (zTs x2) (zTl zt_1) (by omega) (by omega))]; omega)

set_option maxHeartbeats 400000 in
theorem s_X7_sets (a1 : Int32) (a2 : Int32) (a3 : Int32) (σ : zg_S) (hσ : IMc σ) (hp0_ : 0 ≤ a1.toInt) (hp1_ : a1.toInt ≤ 8) (hp2_ : 0 ≤ a2.toInt) (hp3_ : a2.toInt ≤ 3) : zk (f_X7_sets a1 a2 a3 σ) (fun r s => IMc s ∧ hi σ s) := by
  unfold f_X7_sets
  have z1 : zin ((11 + (4 * a1)) + a2) 3047 = true := zin_mkT (zTadd (zTadd (zTl zt_11) (zTmul (zTl zt_4) (zTs a1) (by omega) (by omega)) (by omega) (by omega)) (zTs a2) (by omega) (by omega)) (by omega) (by omega)
  refine zk_in z1 ?_
  refine zk_let (fun σ4 q4 => ?_)
  have hS2 : IMc σ4 := by rw [q4]; exact IMc.up hσ (zTs a3) (mcon1 (zTge (zTadd (zTadd (zTl zt_11) (zTmul (zTl zt_4) (zTs a1) (by omega) (by omega)) (by omega) (by omega)) (zTs a2) (by omega) (by omega)) (by omega)))
  have hH3 : hi σ σ4 := by rw [q4]; exact hi.up1 hi.rf (zTge (zTadd (zTadd (zTl zt_11) (zTmul (zTl zt_4) (zTs a1) (by omega) (by omega)) (by omega) (by omega)) (zTs a2) (by omega) (by omega)) (by omega)) (zTlt (zTadd (zTadd (zTl zt_11) (zTmul (zTl zt_4) (zTs a1) (by omega) (by omega)) (by omega) (by omega)) (zTs a2) (by omega) (by omega)) (by omega) (by omega))
  exact zk_some ⟨hS2, hH3⟩

set_option maxHeartbeats 400000 in
theorem s_X7_drawn  (σ : zg_S) (hσ : IMc σ)  : zk (f_X7_drawn  σ) (fun r s => IMc s ∧ hi σ s ∧ s 1 0 = σ 1 0) := by
  unfold f_X7_drawn
  refine zk_let (fun y1 ey1 => ?_)
  refine zk_let (fun σ4 q4 => ?_)
  have hS2 : IMc σ4 := by rw [q4]; exact IMc.up hσ (zTs y1) trivial
  have hH3 : hi σ σ4 := by rw [q4]; exact hi.up1 hi.rf (by decide) (by decide)
  have kp5 : σ4 1 0 = σ 1 0 := by rw [q4]; exact zkeepf rfl
  exact zk_some ⟨hS2, hH3, (kp5.trans rfl)⟩
end
section
set_option maxHeartbeats 400000 in
theorem s_X7_goesOnBy (a1 : Int32) (σ : zg_S) (hσ : IMc σ) (hW : WF (σ 1)) : zk (f_X7_goesOnBy a1 σ) (fun r s => IMc s ∧ hi σ s) := by
  unfold f_X7_goesOnBy
  refine zk_let (fun σ114 q3 => ?_)
  have hS1 : IMc σ114 := by rw [q3]; exact IMc.up hσ (zTs ((σ 1 7) + a1)) trivial
  have hH2 : hi σ σ114 := by rw [q3]; exact hi.up1 hi.rf (by decide) (by decide)
  refine zk_call (s_X7_holds σ114 hS1 ) (fun r120 σ121 hp4 => ?_)
  obtain ⟨hS5, hH6⟩ := hp4
  have e7 := zt_0
  unfold L_X7_goesOnBy_17
  refine zl_I (fun (x2 : Int32) (s17_ : zg_S) => IMc s17_ ∧ hi σ s17_ ∧ 0 ≤ x2.toInt ∧ x2.toInt ≤ 9) (fun (x2 : Int32) (s17_ : zg_S) => (9 - x2.toInt).toNat) ?_ zfu 0 σ121 ⟨hS5, (hH2.tr hH6), (by omega), (by omega)⟩ (by unfold zfu; omega)
  intro rec17_ x2 s17_ hI8 ih17_
  obtain ⟨hS9, hH10, i11, i12⟩ := hI8
  unfold B_X7_goesOnBy_17
  refine zk_ite (fun h13 => ?_) (fun h13 => ?_)
  · have g14 := zle h13
    have f15 : 0 ≤ (s17_ 1 0).toInt ∧ (s17_ 1 0).toInt ≤ 9 := IMf hS9 1 0
    refine zk_call (s_X7_drawn s17_ hS9 ) (fun r29 σ30 hp16 => ?_)
    obtain ⟨hS18, hH19, x17⟩ := hp16
    refine zk_ite (fun h20 => ?_) (fun h20 => ?_)
    · have g21 := zle h20
      unfold B_X7_goesOnBy_149
      refine zk_let (fun σ1 q24 => ?_)
      have hS22 : IMc σ1 := by rw [q24]; exact IMc.up hS18 (zTs ((σ30 1 2) + 1)) trivial
      have hH23 : hi σ σ1 := by rw [q24]; exact hi.up1 (hH10.tr hH19) (by decide) (by decide)
      exact zk_some ⟨hS22, hH23⟩
    · have g25 := znle h20
      refine zk_call (s_X7_drawn σ30 hS18 ) (fun r39 σ40 hp26 => ?_)
      obtain ⟨hS28, hH29, x27⟩ := hp26
      refine zk_let (fun y48 ey30 => ?_)
      refine zk_let (fun σ51 q33 => ?_)
      have hS31 : IMc σ51 := by rw [q33]; exact IMc.up hS28 (zTs y48) trivial
      have hH32 : hi σ σ51 := by rw [q33]; exact hi.up1 ((hH10.tr hH19).tr hH29) (by decide) (by decide)
      refine zk_call (s_X7_holds σ51 hS31 ) (fun r57 σ58 hp34 => ?_)
      obtain ⟨hS35, hH36⟩ := hp34
      refine zk_ite (fun h37 => ?_) (fun h37 => ?_)
      · have g38 := zeq h37
        have e39 := zt_0
        unfold B_X7_goesOnBy_147
        have z40 : zin 5 3047 = true := zin_mkT (zTl zt_5) (by omega) (by omega)
        refine zk_in z40 ?_
        refine zk_let (fun σ10 q43 => ?_)
        have hS41 : IMc σ10 := by rw [q43]; exact IMc.up hS35 (zTs ((σ58 1 5) + 0)) (mcon1 (zTge (zTl zt_5) (by omega)))
        have hH42 : hi σ σ10 := by rw [q43]; exact hi.up1 (hH32.tr hH36) (zTge (zTl zt_5) (by omega)) (zTlt (zTl zt_5) (by omega) (by omega))
        unfold B_X7_goesOnBy_149
        refine zk_let (fun σ1 q46 => ?_)
        have hS44 : IMc σ1 := by rw [q46]; exact IMc.up hS41 (zTs ((σ10 1 2) + 1)) trivial
        have hH45 : hi σ σ1 := by rw [q46]; exact hi.up1 hH42 (by decide) (by decide)
        exact zk_some ⟨hS44, hH45⟩
      · have g47 := zne h37
        have e48 := zt_0
        unfold B_X7_goesOnBy_147
        have z49 : zin 5 3047 = true := zin_mkT (zTl zt_5) (by omega) (by omega)
        refine zk_in z49 ?_
        refine zk_let (fun σ10 q52 => ?_)
        have hS50 : IMc σ10 := by rw [q52]; exact IMc.up hS35 (zTs ((σ58 1 5) + 1)) (mcon1 (zTge (zTl zt_5) (by omega)))
        have hH51 : hi σ σ10 := by rw [q52]; exact hi.up1 (hH32.tr hH36) (zTge (zTl zt_5) (by omega)) (zTlt (zTl zt_5) (by omega) (by omega))
        unfold B_X7_goesOnBy_149
        refine zk_let (fun σ1 q55 => ?_)
        have hS53 : IMc σ1 := by rw [q55]; exact IMc.up hS50 (zTs ((σ10 1 2) + 1)) trivial
        have hH54 : hi σ σ1 := by rw [q55]; exact hi.up1 hH51 (by decide) (by decide)
        exact zk_some ⟨hS53, hH54⟩
  · have g56 := znle h13
    have f57 : 0 ≤ (s17_ 1 0).toInt ∧ (s17_ 1 0).toInt ≤ 9 := IMf hS9 1 0
    refine zk_call (s_X7_spoils x2 s17_ hS9 (WF.hi hW hH10) (by omega) (by omega)) (fun r68 σ69 hp58 => ?_)
    obtain ⟨hS59, hH60⟩ := hp58
    refine zk_let (fun σ77 q63 => ?_)
    have hS61 : IMc σ77 := by rw [q63]; exact IMc.up hS59 (zTs ((σ69 1 4) + r68)) trivial
    have hH62 : hi σ σ77 := by rw [q63]; exact hi.up1 (hH10.tr hH60) (by decide) (by decide)
    have e64 := zt_2
    refine zk_call (s_X7_of x2 2 σ77 hS61 (by omega) (by omega) (by omega) (by omega)) (fun r83 σ84 hp65 => ?_)
    subst hp65
    refine zk_call (s_X7_sets x2 2 (r83 - r68) σ77 hS61 (by omega) (by omega) (by omega) (by omega)) (fun r90 σ91 hp66 => ?_)
    obtain ⟨hS67, hH68⟩ := hp66
    refine zk_call (s_X7_isShaded x2 σ91 hS67 (by omega) (by omega)) (fun r97 σ98 hp69 => ?_)
    obtain ⟨rfl, x70⟩ := hp69
    refine zk_ite (fun h71 => ?_) (fun h71 => ?_)
    · have g72 := zeq h71
      have e73 := zt_0
      unfold B_X7_goesOnBy_82
      have z74 : zin 3 3047 = true := zin_mkT (zTl zt_3) (by omega) (by omega)
      refine zk_in z74 ?_
      refine zk_let (fun σ19 q77 => ?_)
      have hS75 : IMc σ19 := by rw [q77]; exact IMc.up hS67 (zTs ((σ91 1 3) + 0)) (mcon1 (zTge (zTl zt_3) (by omega)))
      have hH76 : hi σ σ19 := by rw [q77]; exact hi.up1 (hH62.tr hH68) (zTge (zTl zt_3) (by omega)) (zTlt (zTl zt_3) (by omega) (by omega))
      exact ih17_ (x2 + 1) σ19 ⟨hS75, hH76, (by rw [zTe (zTadd (zTs x2) (zTl zt_1) (by omega) (by omega))]; omega), (by rw [zTe (zTadd (zTs x2) (zTl zt_1) (by omega) (by omega))]; omega)⟩ (by show (9 - (x2 + 1).toInt).toNat < (9 - x2.toInt).toNat; rw [zTe (zTadd (zTs x2) (zTl zt_1) (by omega) (by omega))]; omega)
    · have g78 := zne h71
      have e79 := zt_0
      have e80 := zt_3
      refine zk_call (s_X7_of x2 3 σ91 hS67 (by omega) (by omega) (by omega) (by omega)) (fun r107 σ108 hp81 => ?_)
      subst hp81
      unfold B_X7_goesOnBy_82
      have z82 : zin 3 3047 = true := zin_mkT (zTl zt_3) (by omega) (by omega)
      refine zk_in z82 ?_
      refine zk_let (fun σ19 q85 => ?_)
      have hS83 : IMc σ19 := by rw [q85]; exact IMc.up hS67 (zTs ((σ91 1 3) + r107)) (mcon1 (zTge (zTl zt_3) (by omega)))
      have hH84 : hi σ σ19 := by rw [q85]; exact hi.up1 (hH62.tr hH68) (zTge (zTl zt_3) (by omega)) (zTlt (zTl zt_3) (by omega) (by omega))
      exact ih17_ (x2 + 1) σ19 ⟨hS83, hH84, (by rw [zTe (zTadd (zTs x2) (zTl zt_1) (by omega) (by omega))]; omega), (by rw [zTe (zTadd (zTs x2) (zTl zt_1) (by omega) (by omega))]; omega)⟩ (by show (9 - (x2 + 1).toInt).toNat < (9 - x2.toInt).toNat; rw [zTe (zTadd (zTs x2) (zTl zt_1) (by omega) (by omega))]; omega)

set_option maxHeartbeats 400000 in
theorem s_X7_goesOn  (σ : zg_S) (hσ : IMc σ) (hW : WF (σ 1)) : zk (f_X7_goesOn  σ) (fun r s => IMc s ∧ hi σ s) := by
  unfold f_X7_goesOn
  refine zk_call (s_X7_hauls σ hσ (WF.hi hW hi.rf)) (fun r1 σ2 hp1 => ?_)
  obtain ⟨hS2, hH3⟩ := hp1
  refine zk_call (s_X7_goesOnBy r1 σ2 hS2 (WF.hi hW (hi.rf.tr hH3))) (fun r8 σ9 hp4 => ?_)
  obtain ⟨hS5, hH6⟩ := hp4
  exact zk_some ⟨hS5, ((hi.rf.tr hH3).tr hH6)⟩

set_option maxHeartbeats 400000 in
theorem s_X7_goesOnMany (a1 : Int32) (σ : zg_S) (hσ : IMc σ) (hW : WF (σ 1)) (hp0_ : a1.toInt ≤ 100) : zk (f_X7_goesOnMany a1 σ) (fun r s => IMc s ∧ hi σ s) := by
  unfold f_X7_goesOnMany
  have e1 := zt_0
  unfold L_X7_goesOnMany_2
  refine zl_I (fun (x2 : Int32) (s2_ : zg_S) => IMc s2_ ∧ hi σ s2_ ∧ 0 ≤ x2.toInt ∧ x2.toInt ≤ 100) (fun (x2 : Int32) (s2_ : zg_S) => (100 - x2.toInt).toNat) ?_ zfu 0 σ ⟨hσ, hi.rf, (by omega), (by omega)⟩ (by unfold zfu; omega)
  intro rec2_ x2 s2_ hI2 ih2_
  obtain ⟨hS3, hH4, i5, i6⟩ := hI2
  unfold B_X7_goesOnMany_2
  refine zk_ite (fun h7 => ?_) (fun h7 => ?_)
  · have g8 := zle h7
    exact zk_some ⟨hS3, hH4⟩
  · have g9 := znle h7
    refine zk_call (s_X7_goesOn s2_ hS3 (WF.hi hW hH4)) (fun r4 σ5 hp10 => ?_)
    obtain ⟨hS11, hH12⟩ := hp10
    exact ih2_ (x2 + 1) σ5 ⟨hS11, (hH4.tr hH12), (by rw [zTe (zTadd (zTs x2) (zTl zt_1) (by omega) (by omega))]; omega), (by rw [zTe (zTadd (zTs x2) (zTl zt_1) (by omega) (by omega))]; omega)⟩ (by show (100 - (x2 + 1).toInt).toNat < (100 - x2.toInt).toNat; rw [zTe (zTadd (zTs x2) (zTl zt_1) (by omega) (by omega))]; omega)

set_option maxHeartbeats 400000 in
theorem s_X7_book (a1 : Int32) (σ : zg_S) (hσ : IMc σ)  : zk (f_X7_book a1 σ) (fun r s => σ = s) := by
  unfold f_X7_book
  refine zk_ite (fun h1 => ?_) (fun h1 => ?_)
  · have g2 := zeq h1
    have e3 := zt_0
    exact zk_some rfl
  · have g4 := zne h1
    have e5 := zt_0
    refine zk_ite (fun h6 => ?_) (fun h6 => ?_)
    · have g7 := zeq h6
      have e8 := zt_1
      exact zk_some rfl
    · have g9 := zne h6
      have e10 := zt_1
      refine zk_ite (fun h11 => ?_) (fun h11 => ?_)
      · have g12 := zeq h11
        have e13 := zt_2
        exact zk_some rfl
      · have g14 := zne h11
        have e15 := zt_2
        refine zk_ite (fun h16 => ?_) (fun h16 => ?_)
        · have g17 := zeq h16
          have e18 := zt_3
          unfold L_X7_book_63
          refine zl_II (fun (x2 : Int32) (x3 : Int32) (s63_ : zg_S) => σ = s63_ ∧ 0 ≤ x3.toInt ∧ x3.toInt ≤ 9) (fun (x2 : Int32) (x3 : Int32) (s63_ : zg_S) => (9 - x3.toInt).toNat) ?_ zfu 0 0 σ ⟨rfl, (by omega), (by omega)⟩ (by unfold zfu; omega)
          intro rec63_ x2 x3 s63_ hI19 ih63_
          obtain ⟨rfl, i20, i21⟩ := hI19
          unfold B_X7_book_63
          refine zk_ite (fun h22 => ?_) (fun h22 => ?_)
          · have g23 := zle h22
            have f24 : 0 ≤ (σ 1 0).toInt ∧ (σ 1 0).toInt ≤ 9 := IMf hσ 1 0
            exact zk_some rfl
          · have g25 := znle h22
            have f26 : 0 ≤ (σ 1 0).toInt ∧ (σ 1 0).toInt ≤ 9 := IMf hσ 1 0
            have e27 := zt_2
            refine zk_call (s_X7_of x3 2 σ hσ (by omega) (by omega) (by omega) (by omega)) (fun r4 σ5 hp28 => ?_)
            subst hp28
            exact ih63_ (x2 + r4) (x3 + 1) σ ⟨rfl, (by rw [zTe (zTadd (zTs x3) (zTl zt_1) (by omega) (by omega))]; omega), (by rw [zTe (zTadd (zTs x3) (zTl zt_1) (by omega) (by omega))]; omega)⟩ (by show (9 - (x3 + 1).toInt).toNat < (9 - x3.toInt).toNat; rw [zTe (zTadd (zTs x3) (zTl zt_1) (by omega) (by omega))]; omega)
        · have g29 := zne h16
          have e30 := zt_3
          exact zk_some rfl

set_option maxHeartbeats 400000 in
theorem s_X7_isLetter (a1 : Int32) (σ : zg_S) (hσ : IMc σ) (hp0_ : 0 ≤ a1.toInt) : zk (f_X7_isLetter a1 σ) (fun r s => σ = s ∧ (r = 0 ∨ (r = 1 ∧ 0 ≤ a1.toInt ∧ a1.toInt < (σ 0 14).toInt))) := by
  unfold f_X7_isLetter
  refine zk_ite (fun h1 => ?_) (fun h1 => ?_)
  · have g2 := zle h1
    have f3 : 0 ≤ (σ 0 14).toInt ∧ (σ 0 14).toInt ≤ 96 := IMf hσ 0 14
    have e4 := zt_0
    exact zk_some ⟨rfl, (by first | exact Or.inl rfl | exact Or.inr rfl | assumption | omega | exact Or.inr ⟨rfl, by omega, by omega⟩ | exact Or.inr ⟨by omega, by omega⟩)⟩
  · have g5 := znle h1
    have f6 : 0 ≤ (σ 0 14).toInt ∧ (σ 0 14).toInt ≤ 96 := IMf hσ 0 14
    have z7 : zin a1 96 = true := zin_mkT (zTs a1) (by omega) (by omega)
    refine zk_in z7 ?_
    have j8 := zI64 (σ 13 (Int32.toNatClampNeg a1))
    have j9 := zI64 97
    have e10 := zt_97
    have j11 := zI64 122
    have e12 := zt_122
    refine zk_call (s_X7_isIn (Int32.toInt64 (σ 13 (Int32.toNatClampNeg a1))) (Int32.toInt64 97) (Int32.toInt64 122) σ hσ ) (fun r7 σ8 hp13 => ?_)
    obtain ⟨rfl, x14⟩ := hp13
    refine zk_ite (fun h18 => ?_) (fun h18 => ?_)
    · have g19 := zeq h18
      have e20 := zt_0
      exact zk_some ⟨rfl, (by first | exact Or.inl rfl | exact Or.inr rfl | assumption | omega | exact Or.inr ⟨rfl, by omega, by omega⟩ | exact Or.inr ⟨by omega, by omega⟩)⟩
    · have g21 := zne h18
      have e22 := zt_0
      obtain ⟨_d15, _d16, _d17⟩ := x14.resolve_left h18
      have e23 := zt_1
      exact zk_some ⟨rfl, (by first | exact Or.inl rfl | exact Or.inr rfl | assumption | omega | exact Or.inr ⟨rfl, by omega, by omega⟩ | exact Or.inr ⟨by omega, by omega⟩)⟩

set_option maxHeartbeats 400000 in
theorem s_X7_isDigit (a1 : Int32) (σ : zg_S) (hσ : IMc σ) (hp0_ : 0 ≤ a1.toInt) : zk (f_X7_isDigit a1 σ) (fun r s => σ = s ∧ (r = 0 ∨ (r = 1 ∧ 0 ≤ a1.toInt ∧ a1.toInt < (σ 0 14).toInt))) := by
  unfold f_X7_isDigit
  refine zk_ite (fun h1 => ?_) (fun h1 => ?_)
  · have g2 := zle h1
    have f3 : 0 ≤ (σ 0 14).toInt ∧ (σ 0 14).toInt ≤ 96 := IMf hσ 0 14
    have e4 := zt_0
    exact zk_some ⟨rfl, (by first | exact Or.inl rfl | exact Or.inr rfl | assumption | omega | exact Or.inr ⟨rfl, by omega, by omega⟩ | exact Or.inr ⟨by omega, by omega⟩)⟩
  · have g5 := znle h1
    have f6 : 0 ≤ (σ 0 14).toInt ∧ (σ 0 14).toInt ≤ 96 := IMf hσ 0 14
    have z7 : zin a1 96 = true := zin_mkT (zTs a1) (by omega) (by omega)
    refine zk_in z7 ?_
    have j8 := zI64 (σ 13 (Int32.toNatClampNeg a1))
    have j9 := zI64 48
    have e10 := zt_48
    have j11 := zI64 57
    have e12 := zt_57
    refine zk_call (s_X7_isIn (Int32.toInt64 (σ 13 (Int32.toNatClampNeg a1))) (Int32.toInt64 48) (Int32.toInt64 57) σ hσ ) (fun r7 σ8 hp13 => ?_)
    obtain ⟨rfl, x14⟩ := hp13
    refine zk_ite (fun h18 => ?_) (fun h18 => ?_)
    · have g19 := zeq h18
      have e20 := zt_0
      exact zk_some ⟨rfl, (by first | exact Or.inl rfl | exact Or.inr rfl | assumption | omega | exact Or.inr ⟨rfl, by omega, by omega⟩ | exact Or.inr ⟨by omega, by omega⟩)⟩
    · have g21 := zne h18
      have e22 := zt_0
      obtain ⟨_d15, _d16, _d17⟩ := x14.resolve_left h18
      have e23 := zt_1
      exact zk_some ⟨rfl, (by first | exact Or.inl rfl | exact Or.inr rfl | assumption | omega | exact Or.inr ⟨rfl, by omega, by omega⟩ | exact Or.inr ⟨by omega, by omega⟩)⟩
end
section
set_option maxHeartbeats 400000 in
theorem s_X7_isName (a0 : Int32) (a1 : Int32) (σ : zg_S) (hσ : IMc σ)  : zk (f_X7_isName a0 a1 σ) (fun r s => σ = s ∧ (r = 0 ∨ r = 1)) := by
  unfold f_X7_isName
  refine zk_ite (fun h1 => ?_) (fun h1 => ?_)
  · have g2 := zeq h1
    have e3 := zt_0
    refine zk_ite (fun h4 => ?_) (fun h4 => ?_)
    · have g5 := zeq h4
      have e6 := zt_104
      have e7 := zt_1
      exact zk_some ⟨rfl, (by first | exact Or.inl rfl | exact Or.inr rfl | assumption | omega | exact Or.inr ⟨rfl, by omega, by omega⟩ | exact Or.inr ⟨by omega, by omega⟩)⟩
    · have g8 := zne h4
      have e9 := zt_104
      refine zk_ite (fun h10 => ?_) (fun h10 => ?_)
      · have g11 := zeq h10
        have e12 := zt_103
        have e13 := zt_1
        exact zk_some ⟨rfl, (by first | exact Or.inl rfl | exact Or.inr rfl | assumption | omega | exact Or.inr ⟨rfl, by omega, by omega⟩ | exact Or.inr ⟨by omega, by omega⟩)⟩
      · have g14 := zne h10
        have e15 := zt_103
        refine zk_ite (fun h16 => ?_) (fun h16 => ?_)
        · have g17 := zeq h16
          have e18 := zt_112
          have e19 := zt_1
          exact zk_some ⟨rfl, (by first | exact Or.inl rfl | exact Or.inr rfl | assumption | omega | exact Or.inr ⟨rfl, by omega, by omega⟩ | exact Or.inr ⟨by omega, by omega⟩)⟩
        · have g20 := zne h16
          have e21 := zt_112
          exact zk_some ⟨rfl, (by first | exact Or.inl rfl | exact Or.inr rfl | assumption | omega | exact Or.inr ⟨rfl, by omega, by omega⟩ | exact Or.inr ⟨by omega, by omega⟩)⟩
  · have g22 := zne h1
    have e23 := zt_0
    refine zk_ite (fun h24 => ?_) (fun h24 => ?_)
    · have g25 := zeq h24
      have e26 := zt_1
      refine zk_ite (fun h27 => ?_) (fun h27 => ?_)
      · have g28 := zeq h27
        have e29 := zt_99
        exact zk_some ⟨rfl, (by first | exact Or.inl rfl | exact Or.inr rfl | assumption | omega | exact Or.inr ⟨rfl, by omega, by omega⟩ | exact Or.inr ⟨by omega, by omega⟩)⟩
      · have g30 := zne h27
        have e31 := zt_99
        refine zk_ite (fun h32 => ?_) (fun h32 => ?_)
        · have g33 := zeq h32
          have e34 := zt_116
          exact zk_some ⟨rfl, (by first | exact Or.inl rfl | exact Or.inr rfl | assumption | omega | exact Or.inr ⟨rfl, by omega, by omega⟩ | exact Or.inr ⟨by omega, by omega⟩)⟩
        · have g35 := zne h32
          have e36 := zt_116
          exact zk_some ⟨rfl, (by first | exact Or.inl rfl | exact Or.inr rfl | assumption | omega | exact Or.inr ⟨rfl, by omega, by omega⟩ | exact Or.inr ⟨by omega, by omega⟩)⟩
    · have g37 := zne h24
      have e38 := zt_1
      refine zk_ite (fun h39 => ?_) (fun h39 => ?_)
      · have g40 := zeq h39
        have e41 := zt_103
        exact zk_some ⟨rfl, (by first | exact Or.inl rfl | exact Or.inr rfl | assumption | omega | exact Or.inr ⟨rfl, by omega, by omega⟩ | exact Or.inr ⟨by omega, by omega⟩)⟩
      · have g42 := zne h39
        have e43 := zt_103
        refine zk_ite (fun h44 => ?_) (fun h44 => ?_)
        · have g45 := zeq h44
          have e46 := zt_115
          exact zk_some ⟨rfl, (by first | exact Or.inl rfl | exact Or.inr rfl | assumption | omega | exact Or.inr ⟨rfl, by omega, by omega⟩ | exact Or.inr ⟨by omega, by omega⟩)⟩
        · have g47 := zne h44
          have e48 := zt_115
          exact zk_some ⟨rfl, (by first | exact Or.inl rfl | exact Or.inr rfl | assumption | omega | exact Or.inr ⟨rfl, by omega, by omega⟩ | exact Or.inr ⟨by omega, by omega⟩)⟩

set_option maxHeartbeats 400000 in
theorem s_X7_isSign (a1 : Int32) (σ : zg_S) (hσ : IMc σ)  : zk (f_X7_isSign a1 σ) (fun r s => σ = s ∧ (r = 0 ∨ r = 1)) := by
  unfold f_X7_isSign
  refine zk_ite (fun h1 => ?_) (fun h1 => ?_)
  · have g2 := zeq h1
    have e3 := zt_3
    refine zk_ite (fun h4 => ?_) (fun h4 => ?_)
    · have g5 := zeq h4
      have e6 := zt_1
      exact zk_some ⟨rfl, (by first | exact Or.inl rfl | exact Or.inr rfl | assumption | omega | exact Or.inr ⟨rfl, by omega, by omega⟩ | exact Or.inr ⟨by omega, by omega⟩)⟩
    · have g7 := zne h4
      have e8 := zt_0
      exact zk_some ⟨rfl, (by first | exact Or.inl rfl | exact Or.inr rfl | assumption | omega | exact Or.inr ⟨rfl, by omega, by omega⟩ | exact Or.inr ⟨by omega, by omega⟩)⟩
  · have g9 := zne h1
    have e10 := zt_3
    have e11 := zt_0
    exact zk_some ⟨rfl, (by first | exact Or.inl rfl | exact Or.inr rfl | assumption | omega | exact Or.inr ⟨rfl, by omega, by omega⟩ | exact Or.inr ⟨by omega, by omega⟩)⟩

set_option maxHeartbeats 400000 in
theorem s_X7_firstShaded  (σ : zg_S) (hσ : IMc σ)  : zk (f_X7_firstShaded  σ) (fun r s => σ = s) := by
  unfold f_X7_firstShaded
  refine zk_call (s_X7_shadeFrom σ hσ ) (fun r16 σ17 hp1 => ?_)
  subst hp1
  refine zk_ite (fun h2 => ?_) (fun h2 => ?_)
  · have g3 := zle h2
    have e4 := zt_0
    refine zk_call (s_X7_shadeFrom σ hσ ) (fun r25 σ26 hp5 => ?_)
    subst hp5
    unfold B_X7_firstShaded_15
    refine zk_ite (fun h6 => ?_) (fun h6 => ?_)
    · have g7 := zle h6
      have e8 := zt_12
      exact zk_some rfl
    · have g9 := znle h6
      have e10 := zt_12
      refine zk_call (s_X7_shadeFrom σ hσ ) (fun r6 σ7 hp11 => ?_)
      subst hp11
      refine zk_ite (fun h12 => ?_) (fun h12 => ?_)
      · have g13 := zle h12
        exact zk_some rfl
      · have g14 := znle h12
        exact zk_some rfl
  · have g15 := znle h2
    have e16 := zt_0
    unfold B_X7_firstShaded_15
    refine zk_ite (fun h17 => ?_) (fun h17 => ?_)
    · have g18 := zle h17
      have e19 := zt_12
      exact zk_some rfl
    · have g20 := znle h17
      have e21 := zt_12
      refine zk_call (s_X7_shadeFrom σ hσ ) (fun r6 σ7 hp22 => ?_)
      subst hp22
      refine zk_ite (fun h23 => ?_) (fun h23 => ?_)
      · have g24 := zle h23
        exact zk_some rfl
      · have g25 := znle h23
        exact zk_some rfl

set_option maxHeartbeats 400000 in
theorem s_X7_orNone (a0 : Int32) (σ : zg_S) (hσ : IMc σ)  : zk (f_X7_orNone a0 σ) (fun r s => σ = s) := by
  unfold f_X7_orNone
  refine zk_ite (fun h1 => ?_) (fun h1 => ?_)
  · have g2 := zle h1
    have e3 := zt_0
    exact zk_some rfl
  · have g4 := znle h1
    have e5 := zt_0
    exact zk_some rfl

set_option maxHeartbeats 400000 in
theorem s_X7_shadedSet  (σ : zg_S) (hσ : IMc σ)  : zk (f_X7_shadedSet  σ) (fun r s => σ = s) := by
  unfold f_X7_shadedSet
  have e1 := zt_0
  unfold L_X7_shadedSet_4
  refine zl_II (fun (x1 : Int32) (x2 : Int32) (s4_ : zg_S) => σ = s4_ ∧ 0 ≤ x2.toInt ∧ x2.toInt ≤ 9) (fun (x1 : Int32) (x2 : Int32) (s4_ : zg_S) => (9 - x2.toInt).toNat) ?_ zfu 0 0 σ ⟨rfl, (by omega), (by omega)⟩ (by unfold zfu; omega)
  intro rec4_ x1 x2 s4_ hI2 ih4_
  obtain ⟨rfl, i3, i4⟩ := hI2
  unfold B_X7_shadedSet_4
  refine zk_ite (fun h5 => ?_) (fun h5 => ?_)
  · have g6 := zle h5
    have f7 : 0 ≤ (σ 1 0).toInt ∧ (σ 1 0).toInt ≤ 9 := IMf hσ 1 0
    exact zk_some rfl
  · have g8 := znle h5
    have f9 : 0 ≤ (σ 1 0).toInt ∧ (σ 1 0).toInt ≤ 9 := IMf hσ 1 0
    refine zk_call (s_X7_isShaded x2 σ hσ (by omega) (by omega)) (fun r8 σ9 hp10 => ?_)
    obtain ⟨rfl, x11⟩ := hp10
    refine zk_ite (fun h12 => ?_) (fun h12 => ?_)
    · have g13 := zeq h12
      have e14 := zt_0
      unfold B_X7_shadedSet_30
      exact ih4_ (x1 ||| 0) (x2 + 1) σ ⟨rfl, (by rw [zTe (zTadd (zTs x2) (zTl zt_1) (by omega) (by omega))]; omega), (by rw [zTe (zTadd (zTs x2) (zTl zt_1) (by omega) (by omega))]; omega)⟩ (by show (9 - (x2 + 1).toInt).toNat < (9 - x2.toInt).toNat; rw [zTe (zTadd (zTs x2) (zTl zt_1) (by omega) (by omega))]; omega)
    · have g15 := zne h12
      have e16 := zt_0
      unfold B_X7_shadedSet_30
      exact ih4_ (x1 ||| (1 <<< (x2 &&& 31))) (x2 + 1) σ ⟨rfl, (by rw [zTe (zTadd (zTs x2) (zTl zt_1) (by omega) (by omega))]; omega), (by rw [zTe (zTadd (zTs x2) (zTl zt_1) (by omega) (by omega))]; omega)⟩ (by show (9 - (x2 + 1).toInt).toNat < (9 - x2.toInt).toNat; rw [zTe (zTadd (zTs x2) (zTl zt_1) (by omega) (by omega))]; omega)

set_option maxHeartbeats 400000 in
theorem s_X7_cloth (a1 : Int32) (σ : zg_S) (hσ : IMc σ)  : zk (f_X7_cloth a1 σ) (fun r s => σ = s) := by
  unfold f_X7_cloth
  refine zk_ite (fun h1 => ?_) (fun h1 => ?_)
  · have g2 := zeq h1
    have e3 := zt_0
    unfold B_X7_cloth_44
    have z4 : zin (7 + a1) 3047 = true := zin_mkT (zTadd (zTl zt_7) (zTs a1) (by omega) (by omega)) (by omega) (by omega)
    refine zk_in z4 ?_
    exact zk_some rfl
  · have g5 := zne h1
    have e6 := zt_0
    refine zk_ite (fun h7 => ?_) (fun h7 => ?_)
    · have g8 := zeq h7
      have e9 := zt_1
      unfold B_X7_cloth_44
      have z10 : zin (7 + a1) 3047 = true := zin_mkT (zTadd (zTl zt_7) (zTs a1) (by omega) (by omega)) (by omega) (by omega)
      refine zk_in z10 ?_
      exact zk_some rfl
    · have g11 := zne h7
      have e12 := zt_1
      refine zk_ite (fun h13 => ?_) (fun h13 => ?_)
      · have g14 := zeq h13
        have e15 := zt_2
        unfold B_X7_cloth_44
        have z16 : zin (7 + a1) 3047 = true := zin_mkT (zTadd (zTl zt_7) (zTs a1) (by omega) (by omega)) (by omega) (by omega)
        refine zk_in z16 ?_
        exact zk_some rfl
      · have g17 := zne h13
        have e18 := zt_2
        refine zk_ite (fun h19 => ?_) (fun h19 => ?_)
        · have g20 := zeq h19
          have e21 := zt_3
          unfold B_X7_cloth_44
          have z22 : zin (7 + a1) 3047 = true := zin_mkT (zTadd (zTl zt_7) (zTs a1) (by omega) (by omega)) (by omega) (by omega)
          refine zk_in z22 ?_
          exact zk_some rfl
        · have g23 := zne h19
          have e24 := zt_3
          refine zk_ite (fun h25 => ?_) (fun h25 => ?_)
          · have g26 := zeq h25
            have e27 := zt_4
            refine zk_call (s_X7_heat σ hσ ) (fun r18 σ19 hp28 => ?_)
            subst hp28
            exact zk_some rfl
          · have g29 := zne h25
            have e30 := zt_4
            refine zk_ite (fun h31 => ?_) (fun h31 => ?_)
            · have g32 := zeq h31
              have e33 := zt_5
              refine zk_call (s_X7_firstShaded σ hσ ) (fun r28 σ29 hp34 => ?_)
              subst hp34
              refine zk_call (s_X7_orNone r28 σ hσ ) (fun r35 σ36 hp35 => ?_)
              subst hp35
              exact zk_some rfl
            · have g36 := zne h31
              have e37 := zt_5
              refine zk_ite (fun h38 => ?_) (fun h38 => ?_)
              · have g39 := zeq h38
                have e40 := zt_6
                refine zk_call (s_X7_shadedSet σ hσ ) (fun r45 σ46 hp41 => ?_)
                subst hp41
                exact zk_some rfl
              · have g42 := zne h38
                have e43 := zt_6
                exact zk_some rfl

set_option maxHeartbeats 400000 in
theorem s_X7_comes (a1 : Int32) (a2 : Int32) (a3 : Int32) (σ : zg_S) (hσ : IMc σ) (hp0_ : (σ 1 0).toInt ≤ 8) : zk (f_X7_comes a1 a2 a3 σ) (fun r s => IMc s ∧ hi σ s) := by
  unfold f_X7_comes
  have f1 : 0 ≤ (σ 1 0).toInt ∧ (σ 1 0).toInt ≤ 9 := IMf hσ 1 0
  refine zk_let (fun σ3 q4 => ?_)
  have hS2 : IMc σ3 := by rw [q4]; exact IMc.up hσ (zTadd (zTs (σ 1 0)) (zTl zt_1) (by omega) (by omega)) ⟨by omega, by omega⟩
  have g5 : (σ3 1 0).toInt = ((σ 1 0).toInt + 1) := by rw [q4]; exact (congrArg Int32.toInt zgot).trans (zTe (zTadd (zTs (σ 1 0)) (zTl zt_1) (by omega) (by omega)))
  have hH3 : hi σ σ3 := by rw [q4]; exact hi.up1z hi.rf
  have e6 := zt_0
  refine zk_call (s_X7_sets (σ 1 0) 0 a1 σ3 hS2 (by omega) (by omega) (by omega) (by omega)) (fun r9 σ10 hp7 => ?_)
  obtain ⟨hS8, hH9⟩ := hp7
  have e10 := zt_1
  refine zk_call (s_X7_sets (σ 1 0) 1 a2 σ10 hS8 (by omega) (by omega) (by omega) (by omega)) (fun r16 σ17 hp11 => ?_)
  obtain ⟨hS12, hH13⟩ := hp11
  have e14 := zt_2
  have e15 := zt_100
  refine zk_call (s_X7_sets (σ 1 0) 2 100 σ17 hS12 (by omega) (by omega) (by omega) (by omega)) (fun r23 σ24 hp16 => ?_)
  obtain ⟨hS17, hH18⟩ := hp16
  have e19 := zt_3
  refine zk_call (s_X7_sets (σ 1 0) 3 a3 σ24 hS17 (by omega) (by omega) (by omega) (by omega)) (fun r30 σ31 hp20 => ?_)
  obtain ⟨hS21, hH22⟩ := hp20
  exact zk_some ⟨hS21, ((((hH3.tr hH9).tr hH13).tr hH18).tr hH22)⟩

set_option maxHeartbeats 400000 in
theorem s_X7_isSheet (a0 : Int32) (σ : zg_S) (hσ : IMc σ)  : zk (f_X7_isSheet a0 σ) (fun r s => σ = s ∧ (r = 0 ∨ (r = 1 ∧ 0 ≤ a0.toInt ∧ a0.toInt ≤ 3))) := by
  unfold f_X7_isSheet
  have j1 := zI64 a0
  have j2 := zI64 0
  have e3 := zt_0
  have j4 := zI64 3
  have e5 := zt_3
  refine zk_call (s_X7_isIn (Int32.toInt64 a0) (Int32.toInt64 0) (Int32.toInt64 3) σ hσ ) (fun r1 σ2 hp6 => ?_)
  obtain ⟨rfl, x7⟩ := hp6
  refine zk_ck (x7.imp id And.left) ?_
  rcases x7 with rfl | ⟨rfl, _d9, _d10⟩
  · exact zk_some ⟨rfl, (by first | exact Or.inl rfl | exact Or.inr rfl | assumption | omega | exact Or.inr ⟨rfl, by omega, by omega⟩ | exact Or.inr ⟨by omega, by omega⟩)⟩
  · have e11 := zt_1
    exact zk_some ⟨rfl, (by first | exact Or.inl rfl | exact Or.inr rfl | assumption | omega | exact Or.inr ⟨rfl, by omega, by omega⟩ | exact Or.inr ⟨by omega, by omega⟩)⟩
end
section
set_option maxHeartbeats 400000 in
theorem s_X7_deal (a1 : Int32) (σ : zg_S) (hσ : IMc σ)  : zk (f_X7_deal a1 σ) (fun r s => IMc s ∧ hi σ s) := by
  unfold f_X7_deal
  have j1 := zI64 a1
  have j2 := zI64 1
  have e3 := zt_1
  have j4 := zI64 9
  have e5 := zt_9
  refine zk_call (s_X7_isIn (Int32.toInt64 a1) (Int32.toInt64 1) (Int32.toInt64 9) σ hσ ) (fun r41 σ42 hp6 => ?_)
  obtain ⟨rfl, x7⟩ := hp6
  refine zk_ite (fun h11 => ?_) (fun h11 => ?_)
  · have g12 := zeq h11
    have e13 := zt_0
    exact zk_some ⟨hσ, hi.rf⟩
  · have g14 := zne h11
    have e15 := zt_0
    obtain ⟨_d8, _d9, _d10⟩ := x7.resolve_left h11
    unfold L_X7_deal_17
    refine zl_I (fun (x2 : Int32) (s17_ : zg_S) => IMc s17_ ∧ hi σ s17_ ∧ 0 ≤ x2.toInt ∧ x2.toInt ≤ 9) (fun (x2 : Int32) (s17_ : zg_S) => (9 - x2.toInt).toNat) ?_ zfu 0 σ ⟨hσ, hi.rf, (by omega), (by omega)⟩ (by unfold zfu; omega)
    intro rec17_ x2 s17_ hI16 ih17_
    obtain ⟨hS17, hH18, i19, i20⟩ := hI16
    unfold B_X7_deal_17
    refine zk_ite (fun h21 => ?_) (fun h21 => ?_)
    · have g22 := zle h21
      exact zk_some ⟨hS17, hH18⟩
    · have g23 := znle h21
      refine zk_ite (fun h24 => ?_) (fun h24 => ?_)
      · have g25 := zle h24
        have e26 := zt_9
        have f27 : 0 ≤ (s17_ 1 0).toInt ∧ (s17_ 1 0).toInt ≤ 9 := IMf hS17 1 0
        exact zk_some ⟨hS17, hH18⟩
      · have g28 := znle h24
        have e29 := zt_9
        have f30 : 0 ≤ (s17_ 1 0).toInt ∧ (s17_ 1 0).toInt ≤ 9 := IMf hS17 1 0
        refine zk_call (s_X7_drawn s17_ hS17 ) (fun r7 σ8 hp31 => ?_)
        obtain ⟨hS33, hH34, x32⟩ := hp31
        refine zk_call (s_X7_drawn σ8 hS33 ) (fun r16 σ17 hp35 => ?_)
        obtain ⟨hS37, hH38, x36⟩ := hp35
        refine zk_call (s_X7_drawn σ17 hS37 ) (fun r25 σ26 hp39 => ?_)
        obtain ⟨hS41, hH42, x40⟩ := hp39
        have g43 := congrArg Int32.toInt (x40.trans (x36.trans (x32.trans rfl)))
        have f44 : 0 ≤ (σ26 1 0).toInt ∧ (σ26 1 0).toInt ≤ 9 := IMf hS41 1 0
        refine zk_call (s_X7_comes (r7 - r7 / 6 * 6) (r16 - r16 / 12 * 12) (r25 - r25 / 40 * 40) σ26 hS41 (by omega)) (fun r32 σ33 hp45 => ?_)
        obtain ⟨hS46, hH47⟩ := hp45
        exact ih17_ (x2 + 1) σ33 ⟨hS46, ((((hH18.tr hH34).tr hH38).tr hH42).tr hH47), (by rw [zTe (zTadd (zTs x2) (zTl zt_1) (by omega) (by omega))]; omega), (by rw [zTe (zTadd (zTs x2) (zTl zt_1) (by omega) (by omega))]; omega)⟩ (by show (9 - (x2 + 1).toInt).toNat < (9 - x2.toInt).toNat; rw [zTe (zTadd (zTs x2) (zTl zt_1) (by omega) (by omega))]; omega)

set_option maxHeartbeats 400000 in
theorem s_X7_fee  (σ : zg_S) (hσ : IMc σ) (hW : WF (σ 1)) : zk (f_X7_fee  σ) (fun r s => IMc s ∧ hi σ s) := by
  unfold f_X7_fee
  have e1 := zt_1
  refine zk_call (s_X7_counts 1 σ hσ ) (fun r1 σ2 hp2 => ?_)
  obtain ⟨rfl, x3, x4⟩ := hp2
  have f5 : 0 ≤ (σ 1 1).toInt ∧ (σ 1 1).toInt ≤ 14 := IMf hσ 1 1
  refine zk_ite (fun h6 => ?_) (fun h6 => ?_)
  · have g7 := zle h6
    have e8 := zt_0
    refine zk_let (fun σ12 q11 => ?_)
    have hS9 : IMc σ12 := by rw [q11]; exact IMc.up hσ (zTs (σ 1 3)) trivial
    have hH10 : hi σ σ12 := by rw [q11]; exact hi.upo hi.rf rfl
    refine zk_let (fun σ18 q14 => ?_)
    have hS12 : IMc σ18 := by rw [q14]; exact IMc.up hS9 (zTs (σ12 1 5)) trivial
    have hH13 : hi σ σ18 := by rw [q14]; exact hi.upo hH10 rfl
    have f15 : 0 ≤ (σ18 1 1).toInt ∧ (σ18 1 1).toInt ≤ 14 := IMf hS12 1 1
    have g16 := congrArg Int32.toInt (hH13).1
    refine zk_call (s_X7_worked r1 σ18 hS12 (WF.hi hW hH13) (by omega) (by omega)) (fun r24 σ25 hp17 => ?_)
    obtain ⟨hS18, hH19⟩ := hp17
    exact zk_some ⟨hS18, (hH13.tr hH19)⟩
  · have g20 := znle h6
    have e21 := zt_0
    exact zk_some ⟨hσ, hi.rf⟩

set_option maxHeartbeats 400000 in
theorem s_X7_feed (a1 : Int32) (a2 : Int32) (a3 : Int32) (σ : zg_S) (hσ : IMc σ)  : zk (f_X7_feed a1 a2 a3 σ) (fun r s => IMc s ∧ hi σ s) := by
  unfold f_X7_feed
  refine zk_ite (fun h1 => ?_) (fun h1 => ?_)
  · have g2 := zle h1
    have f3 : 0 ≤ (σ 0 14).toInt ∧ (σ 0 14).toInt ≤ 96 := IMf hσ 0 14
    have e4 := zt_12
    have e5 := zadd (σ 0 14) 12 (by omega) (by omega)
    have e6 := zt_96
    have e7 := zt_0
    unfold L_X7_feed_18
    refine zl_I (fun (x4 : Int32) (s18_ : zg_S) => IMc s18_ ∧ hi σ s18_ ∧ 0 ≤ x4.toInt ∧ x4.toInt ≤ 12 ∧ (s18_ 0 14).toInt ≤ 84 + x4.toInt) (fun (x4 : Int32) (s18_ : zg_S) => (12 - x4.toInt).toNat) ?_ zfu 0 σ ⟨hσ, hi.rf, (by omega), (by omega), (by omega)⟩ (by unfold zfu; omega)
    intro rec18_ x4 s18_ hI8 ih18_
    obtain ⟨hS9, hH10, i11, i12, i13⟩ := hI8
    unfold B_X7_feed_18
    refine zk_ite (fun h14 => ?_) (fun h14 => ?_)
    · have g15 := zle h14
      have e16 := zt_12
      exact zk_some ⟨hS9, hH10⟩
    · have g17 := znle h14
      have e18 := zt_12
      refine zk_ite (fun h19 => ?_) (fun h19 => ?_)
      · have g20 := zle h19
        have e21 := zt_4
        refine zk_ite (fun h22 => ?_) (fun h22 => ?_)
        · have g23 := zle h22
          have e24 := zt_8
          unfold B_X7_feed_47
          refine zk_let (fun y3 ey25 => ?_)
          have f26 : 0 ≤ (s18_ 0 14).toInt ∧ (s18_ 0 14).toInt ≤ 96 := IMf hS9 0 14
          have z27 : zin (s18_ 0 14) 96 = true := zin_mkT (zTs (s18_ 0 14)) (by omega) (by omega)
          refine zk_in z27 ?_
          refine zk_let (fun σ9 q30 => ?_)
          have hS28 : IMc σ9 := by rw [q30]; exact IMc.up hS9 (zTs y3) trivial
          have hH29 : hi σ σ9 := by rw [q30]; exact hi.upo hH10 rfl
          have kp31 : σ9 0 14 = s18_ 0 14 := by rw [q30]; exact congrFun (zup_ne rfl) 14
          refine zk_let (fun σ15 q34 => ?_)
          have g35 := congrArg Int32.toInt (kp31.trans rfl)
          have f36 : 0 ≤ (σ9 0 14).toInt ∧ (σ9 0 14).toInt ≤ 96 := IMf hS28 0 14
          have hS32 : IMc σ15 := by rw [q34]; exact IMc.up hS28 (zTadd (zTs (σ9 0 14)) (zTl zt_1) (by omega) (by omega)) ⟨by omega, by omega⟩
          have g37 : (σ15 0 14).toInt = ((σ9 0 14).toInt + 1) := by rw [q34]; exact (congrArg Int32.toInt zgot).trans (zTe (zTadd (zTs (σ9 0 14)) (zTl zt_1) (by omega) (by omega)))
          have hH33 : hi σ σ15 := by rw [q34]; exact hi.up0 hH29 rfl
          exact ih18_ (x4 + 1) σ15 ⟨hS32, hH33, (by rw [zTe (zTadd (zTs x4) (zTl zt_1) (by omega) (by omega))]; omega), (by rw [zTe (zTadd (zTs x4) (zTl zt_1) (by omega) (by omega))]; omega), (by rw [zTe (zTadd (zTs x4) (zTl zt_1) (by omega) (by omega))]; omega)⟩ (by show (12 - (x4 + 1).toInt).toNat < (12 - x4.toInt).toNat; rw [zTe (zTadd (zTs x4) (zTl zt_1) (by omega) (by omega))]; omega)
        · have g38 := znle h22
          have e39 := zt_8
          unfold B_X7_feed_47
          refine zk_let (fun y3 ey40 => ?_)
          have f41 : 0 ≤ (s18_ 0 14).toInt ∧ (s18_ 0 14).toInt ≤ 96 := IMf hS9 0 14
          have z42 : zin (s18_ 0 14) 96 = true := zin_mkT (zTs (s18_ 0 14)) (by omega) (by omega)
          refine zk_in z42 ?_
          refine zk_let (fun σ9 q45 => ?_)
          have hS43 : IMc σ9 := by rw [q45]; exact IMc.up hS9 (zTs y3) trivial
          have hH44 : hi σ σ9 := by rw [q45]; exact hi.upo hH10 rfl
          have kp46 : σ9 0 14 = s18_ 0 14 := by rw [q45]; exact congrFun (zup_ne rfl) 14
          refine zk_let (fun σ15 q49 => ?_)
          have g50 := congrArg Int32.toInt (kp46.trans rfl)
          have f51 : 0 ≤ (σ9 0 14).toInt ∧ (σ9 0 14).toInt ≤ 96 := IMf hS43 0 14
          have hS47 : IMc σ15 := by rw [q49]; exact IMc.up hS43 (zTadd (zTs (σ9 0 14)) (zTl zt_1) (by omega) (by omega)) ⟨by omega, by omega⟩
          have g52 : (σ15 0 14).toInt = ((σ9 0 14).toInt + 1) := by rw [q49]; exact (congrArg Int32.toInt zgot).trans (zTe (zTadd (zTs (σ9 0 14)) (zTl zt_1) (by omega) (by omega)))
          have hH48 : hi σ σ15 := by rw [q49]; exact hi.up0 hH44 rfl
          exact ih18_ (x4 + 1) σ15 ⟨hS47, hH48, (by rw [zTe (zTadd (zTs x4) (zTl zt_1) (by omega) (by omega))]; omega), (by rw [zTe (zTadd (zTs x4) (zTl zt_1) (by omega) (by omega))]; omega), (by rw [zTe (zTadd (zTs x4) (zTl zt_1) (by omega) (by omega))]; omega)⟩ (by show (12 - (x4 + 1).toInt).toNat < (12 - x4.toInt).toNat; rw [zTe (zTadd (zTs x4) (zTl zt_1) (by omega) (by omega))]; omega)
      · have g53 := znle h19
        have e54 := zt_4
        unfold B_X7_feed_47
        refine zk_let (fun y3 ey55 => ?_)
        have f56 : 0 ≤ (s18_ 0 14).toInt ∧ (s18_ 0 14).toInt ≤ 96 := IMf hS9 0 14
        have z57 : zin (s18_ 0 14) 96 = true := zin_mkT (zTs (s18_ 0 14)) (by omega) (by omega)
        refine zk_in z57 ?_
        refine zk_let (fun σ9 q60 => ?_)
        have hS58 : IMc σ9 := by rw [q60]; exact IMc.up hS9 (zTs y3) trivial
        have hH59 : hi σ σ9 := by rw [q60]; exact hi.upo hH10 rfl
        have kp61 : σ9 0 14 = s18_ 0 14 := by rw [q60]; exact congrFun (zup_ne rfl) 14
        refine zk_let (fun σ15 q64 => ?_)
        have g65 := congrArg Int32.toInt (kp61.trans rfl)
        have f66 : 0 ≤ (σ9 0 14).toInt ∧ (σ9 0 14).toInt ≤ 96 := IMf hS58 0 14
        have hS62 : IMc σ15 := by rw [q64]; exact IMc.up hS58 (zTadd (zTs (σ9 0 14)) (zTl zt_1) (by omega) (by omega)) ⟨by omega, by omega⟩
        have g67 : (σ15 0 14).toInt = ((σ9 0 14).toInt + 1) := by rw [q64]; exact (congrArg Int32.toInt zgot).trans (zTe (zTadd (zTs (σ9 0 14)) (zTl zt_1) (by omega) (by omega)))
        have hH63 : hi σ σ15 := by rw [q64]; exact hi.up0 hH59 rfl
        exact ih18_ (x4 + 1) σ15 ⟨hS62, hH63, (by rw [zTe (zTadd (zTs x4) (zTl zt_1) (by omega) (by omega))]; omega), (by rw [zTe (zTadd (zTs x4) (zTl zt_1) (by omega) (by omega))]; omega), (by rw [zTe (zTadd (zTs x4) (zTl zt_1) (by omega) (by omega))]; omega)⟩ (by show (12 - (x4 + 1).toInt).toNat < (12 - x4.toInt).toNat; rw [zTe (zTadd (zTs x4) (zTl zt_1) (by omega) (by omega))]; omega)
  · have g68 := znle h1
    have f69 : 0 ≤ (σ 0 14).toInt ∧ (σ 0 14).toInt ≤ 96 := IMf hσ 0 14
    have e70 := zt_12
    have e71 := zadd (σ 0 14) 12 (by omega) (by omega)
    have e72 := zt_96
    exact zk_some ⟨hσ, hi.rf⟩

set_option maxHeartbeats 400000 in
theorem s_X7_fine (a1 : Int32) (σ : zg_S) (hσ : IMc σ) (hW : WF (σ 1)) : zk (f_X7_fine a1 σ) (fun r s => IMc s ∧ hi σ s) := by
  unfold f_X7_fine
  refine zk_call (s_X7_isStall a1 σ hσ ) (fun r17 σ18 hp1 => ?_)
  obtain ⟨rfl, x2⟩ := hp1
  have f3 : 0 ≤ (σ 1 0).toInt ∧ (σ 1 0).toInt ≤ 9 := IMf hσ 1 0
  refine zk_ite (fun h7 => ?_) (fun h7 => ?_)
  · have g8 := zeq h7
    have e9 := zt_0
    exact zk_some ⟨hσ, hi.rf⟩
  · have g10 := zne h7
    have e11 := zt_0
    obtain ⟨_d4, _d5, _d6⟩ := x2.resolve_left h7
    have e12 := zt_2
    refine zk_call (s_X7_counts 2 σ hσ ) (fun r26 σ27 hp13 => ?_)
    obtain ⟨rfl, x14, x15⟩ := hp13
    have f16 : 0 ≤ (σ 1 1).toInt ∧ (σ 1 1).toInt ≤ 14 := IMf hσ 1 1
    refine zk_ite (fun h17 => ?_) (fun h17 => ?_)
    · have g18 := zle h17
      refine zk_call (s_X7_of a1 2 σ hσ (by omega) (by omega) (by omega) (by omega)) (fun r37 σ38 hp19 => ?_)
      subst hp19
      refine zk_let (fun σ44 q22 => ?_)
      have hS20 : IMc σ44 := by rw [q22]; exact IMc.up hσ (zTs r37) trivial
      have hH21 : hi σ σ44 := by rw [q22]; exact hi.upo hi.rf rfl
      refine zk_call (s_X7_isShaded a1 σ44 hS20 (by omega) (by omega)) (fun r50 σ51 hp23 => ?_)
      obtain ⟨rfl, x24⟩ := hp23
      refine zk_ite (fun h25 => ?_) (fun h25 => ?_)
      · have g26 := zeq h25
        unfold B_X7_fine_60
        have z27 : zin 115 128 = true := zin_mkT (zTl zt_115) (by omega) (by omega)
        refine zk_in z27 ?_
        refine zk_let (fun σ4 q30 => ?_)
        have hS28 : IMc σ4 := by rw [q30]; exact IMc.up hS20 (zTs 0) trivial
        have hH29 : hi σ σ4 := by rw [q30]; exact hi.upo hH21 rfl
        have f31 : 0 ≤ (σ4 1 1).toInt ∧ (σ4 1 1).toInt ≤ 14 := IMf hS28 1 1
        have g32 := congrArg Int32.toInt (hH29).1
        refine zk_call (s_X7_worked r26 σ4 hS28 (WF.hi hW hH29) (by omega) (by omega)) (fun r10 σ11 hp33 => ?_)
        obtain ⟨hS34, hH35⟩ := hp33
        exact zk_some ⟨hS34, (hH29.tr hH35)⟩
      · have g36 := zne h25
        unfold B_X7_fine_60
        have z37 : zin 115 128 = true := zin_mkT (zTl zt_115) (by omega) (by omega)
        refine zk_in z37 ?_
        refine zk_let (fun σ4 q40 => ?_)
        have hS38 : IMc σ4 := by rw [q40]; exact IMc.up hS20 (zTs 1) trivial
        have hH39 : hi σ σ4 := by rw [q40]; exact hi.upo hH21 rfl
        have f41 : 0 ≤ (σ4 1 1).toInt ∧ (σ4 1 1).toInt ≤ 14 := IMf hS38 1 1
        have g42 := congrArg Int32.toInt (hH39).1
        refine zk_call (s_X7_worked r26 σ4 hS38 (WF.hi hW hH39) (by omega) (by omega)) (fun r10 σ11 hp43 => ?_)
        obtain ⟨hS44, hH45⟩ := hp43
        exact zk_some ⟨hS44, (hH39.tr hH45)⟩
    · have g46 := znle h17
      refine zk_call (s_X7_of a1 2 σ hσ (by omega) (by omega) (by omega) (by omega)) (fun r61 σ62 hp47 => ?_)
      subst hp47
      exact zk_some ⟨hσ, hi.rf⟩
end
section
set_option maxHeartbeats 400000 in
theorem s_X7_hours (a1 : Int32) (σ : zg_S) (hσ : IMc σ) (hW : WF (σ 1)) : zk (f_X7_hours a1 σ) (fun r s => IMc s ∧ hi σ s) := by
  unfold f_X7_hours
  have j1 := zI64 a1
  have j2 := zI64 1
  have e3 := zt_1
  have j4 := zI64 100
  have e5 := zt_100
  refine zk_call (s_X7_isIn (Int32.toInt64 a1) (Int32.toInt64 1) (Int32.toInt64 100) σ hσ ) (fun r16 σ17 hp6 => ?_)
  obtain ⟨rfl, x7⟩ := hp6
  refine zk_ite (fun h11 => ?_) (fun h11 => ?_)
  · have g12 := zeq h11
    have e13 := zt_0
    exact zk_some ⟨hσ, hi.rf⟩
  · have g14 := zne h11
    have e15 := zt_0
    obtain ⟨_d8, _d9, _d10⟩ := x7.resolve_left h11
    unfold L_X7_hours_24
    refine zl_II (fun (x2 : Int32) (x3 : Int32) (s24_ : zg_S) => IMc s24_ ∧ hi σ s24_ ∧ 0 ≤ x3.toInt ∧ x3.toInt ≤ 100) (fun (x2 : Int32) (x3 : Int32) (s24_ : zg_S) => (100 - x3.toInt).toNat) ?_ zfu (σ 1 4) 0 σ ⟨hσ, hi.rf, (by omega), (by omega)⟩ (by unfold zfu; omega)
    intro rec24_ x2 x3 s24_ hI16 ih24_
    obtain ⟨hS17, hH18, i19, i20⟩ := hI16
    unfold B_X7_hours_24
    refine zk_ite (fun h21 => ?_) (fun h21 => ?_)
    · have g22 := zle h21
      unfold B_X7_hours_51
      exact zk_some ⟨hS17, hH18⟩
    · have g23 := znle h21
      refine zk_ite (fun h24 => ?_) (fun h24 => ?_)
      · have g25 := zle h24
        have e26 := zt_9999
        unfold B_X7_hours_51
        exact zk_some ⟨hS17, hH18⟩
      · have g27 := znle h24
        have e28 := zt_9999
        refine zk_call (s_X7_goesOn s24_ hS17 (WF.hi hW hH18)) (fun r7 σ8 hp29 => ?_)
        obtain ⟨hS30, hH31⟩ := hp29
        exact ih24_ x2 (x3 + 1) σ8 ⟨hS30, (hH18.tr hH31), (by rw [zTe (zTadd (zTs x3) (zTl zt_1) (by omega) (by omega))]; omega), (by rw [zTe (zTadd (zTs x3) (zTl zt_1) (by omega) (by omega))]; omega)⟩ (by show (100 - (x3 + 1).toInt).toNat < (100 - x3.toInt).toNat; rw [zTe (zTadd (zTs x3) (zTl zt_1) (by omega) (by omega))]; omega)

set_option maxHeartbeats 400000 in
theorem s_X7_isText (a1 : Int32) (σ : zg_S) (hσ : IMc σ)  : zk (f_X7_isText a1 σ) (fun r s => σ = s ∧ (r = 0 ∨ (r = 1 ∧ 0 ≤ a1.toInt ∧ a1.toInt < (σ 1 1).toInt))) := by
  unfold f_X7_isText
  have j1 := zI64 a1
  have j2 := zI64 0
  have e3 := zt_0
  have j4 := zI64 ((σ 1 1) - 1)
  have f5 : 0 ≤ (σ 1 1).toInt ∧ (σ 1 1).toInt ≤ 14 := IMf hσ 1 1
  have e6 := zt_1
  have e7 := zsub (σ 1 1) 1 (by omega) (by omega)
  refine zk_call (s_X7_isIn (Int32.toInt64 a1) (Int32.toInt64 0) (Int32.toInt64 ((σ 1 1) - 1)) σ hσ ) (fun r1 σ2 hp8 => ?_)
  obtain ⟨rfl, x9⟩ := hp8
  refine zk_ck (x9.imp id And.left) ?_
  rcases x9 with rfl | ⟨rfl, _d11, _d12⟩
  · exact zk_some ⟨rfl, (by first | exact Or.inl rfl | exact Or.inr rfl | assumption | omega | exact Or.inr ⟨rfl, by omega, by omega⟩ | exact Or.inr ⟨by omega, by omega⟩)⟩
  · exact zk_some ⟨rfl, (by first | exact Or.inl rfl | exact Or.inr rfl | assumption | omega | exact Or.inr ⟨rfl, by omega, by omega⟩ | exact Or.inr ⟨by omega, by omega⟩)⟩

set_option maxHeartbeats 400000 in
theorem s_X7_item (a1 : Int32) (a2 : Int32) (σ : zg_S) (hσ : IMc σ)  : zk (f_X7_item a1 a2 σ) (fun r s => σ = s) := by
  unfold f_X7_item
  refine zk_call (s_X7_isSlot a1 σ hσ ) (fun r1 σ2 hp1 => ?_)
  obtain ⟨rfl, x2⟩ := hp1
  refine zk_ite (fun h6 => ?_) (fun h6 => ?_)
  · have g7 := zeq h6
    have e8 := zt_0
    exact zk_some rfl
  · have g9 := zne h6
    have e10 := zt_0
    obtain ⟨_d3, _d4, _d5⟩ := x2.resolve_left h6
    have z11 : zin a1 5 = true := zin_mkT (zTs a1) (by omega) (by omega)
    refine zk_in z11 ?_
    refine zk_ite (fun h12 => ?_) (fun h12 => ?_)
    · have g13 := zeq h12
      have e14 := zt_2
      have j15 := zI64 a2
      have j16 := zI64 0
      have j17 := zI64 ((σ 10 (Int32.toNatClampNeg a1)) - 1)
      have f18 : 0 ≤ (σ 10 (Int32.toNatClampNeg a1)).toInt ∧ (σ 10 (Int32.toNatClampNeg a1)).toInt ≤ 24 := IMf hσ 10 (Int32.toNatClampNeg a1)
      have e19 := zt_1
      have e20 := zsub (σ 10 (Int32.toNatClampNeg a1)) 1 (by omega) (by omega)
      refine zk_call (s_X7_isIn (Int32.toInt64 a2) (Int32.toInt64 0) (Int32.toInt64 ((σ 10 (Int32.toNatClampNeg a1)) - 1)) σ hσ ) (fun r15 σ16 hp21 => ?_)
      obtain ⟨rfl, x22⟩ := hp21
      refine zk_ite (fun h26 => ?_) (fun h26 => ?_)
      · have g27 := zeq h26
        exact zk_some rfl
      · have g28 := zne h26
        obtain ⟨_d23, _d24, _d25⟩ := x22.resolve_left h26
        have z29 : zin ((24 * a1) + a2) 120 = true := zin_mkT (zTadd (zTmul (zTl zt_24) (zTs a1) (by omega) (by omega)) (zTs a2) (by omega) (by omega)) (by omega) (by omega)
        refine zk_in z29 ?_
        refine zk_let (fun y27 ey30 => ?_)
        refine zk_ite (fun h31 => ?_) (fun h31 => ?_)
        · have g32 := zeq h31
          have e33 := zt_m1000000005
          exact zk_some rfl
        · have g34 := zne h31
          have e35 := zt_m1000000005
          exact zk_some rfl
    · have g36 := zne h12
      have e37 := zt_2
      refine zk_ite (fun h38 => ?_) (fun h38 => ?_)
      · have g39 := zeq h38
        exact zk_some rfl
      · have g40 := zne h38
        exact zk_some rfl

set_option maxHeartbeats 400000 in
theorem s_X7_worth (a1 : Int32) (σ : zg_S) (hσ : IMc σ) (hp0_ : 0 ≤ a1.toInt) (hp1_ : a1.toInt ≤ 8) : zk (f_X7_worth a1 σ) (fun r s => σ = s) := by
  unfold f_X7_worth
  have e1 := zt_3
  refine zk_call (s_X7_of a1 3 σ hσ (by omega) (by omega) (by omega) (by omega)) (fun r1 σ2 hp2 => ?_)
  subst hp2
  have e3 := zt_0
  refine zk_call (s_X7_of a1 0 σ hσ (by omega) (by omega) (by omega) (by omega)) (fun r10 σ11 hp4 => ?_)
  subst hp4
  refine zk_ite (fun h5 => ?_) (fun h5 => ?_)
  · have g6 := zeq h5
    have e7 := zt_1
    exact zk_some rfl
  · have g8 := zne h5
    have e9 := zt_1
    refine zk_ite (fun h10 => ?_) (fun h10 => ?_)
    · have g11 := zeq h10
      have e12 := zt_2
      exact zk_some rfl
    · have g13 := zne h10
      have e14 := zt_2
      refine zk_ite (fun h15 => ?_) (fun h15 => ?_)
      · have g16 := zeq h15
        exact zk_some rfl
      · have g17 := zne h15
        refine zk_ite (fun h18 => ?_) (fun h18 => ?_)
        · have g19 := zeq h18
          have e20 := zt_4
          exact zk_some rfl
        · have g21 := zne h18
          have e22 := zt_4
          refine zk_ite (fun h23 => ?_) (fun h23 => ?_)
          · have g24 := zeq h23
            have e25 := zt_5
            exact zk_some rfl
          · have g26 := zne h23
            have e27 := zt_5
            exact zk_some rfl
end
section
set_option maxHeartbeats 400000 in
theorem s_X7_mark (a1 : Int32) (a2 : Int32) (a3 : Int32) (σ : zg_S) (hσ : IMc σ)  : zk (f_X7_mark a1 a2 a3 σ) (fun r s => IMc s ∧ hi σ s) := by
  unfold f_X7_mark
  refine zk_call (s_X7_isSheet a1 σ hσ ) (fun r47 σ48 hp1 => ?_)
  obtain ⟨rfl, x2⟩ := hp1
  refine zk_ite (fun h6 => ?_) (fun h6 => ?_)
  · have g7 := zeq h6
    have e8 := zt_0
    exact zk_some ⟨hσ, hi.rf⟩
  · have g9 := zne h6
    have e10 := zt_0
    obtain ⟨_d3, _d4, _d5⟩ := x2.resolve_left h6
    have z11 : zin a1 4 = true := zin_mkT (zTs a1) (by omega) (by omega)
    refine zk_in z11 ?_
    refine zk_ite (fun h12 => ?_) (fun h12 => ?_)
    · have g13 := zle h12
      have j14 := zI64 a2
      have j15 := zI64 0
      have j16 := zI64 ((σ 5 (Int32.toNatClampNeg a1)) - 1)
      have f17 : 0 ≤ (σ 5 (Int32.toNatClampNeg a1)).toInt ∧ (σ 5 (Int32.toNatClampNeg a1)).toInt ≤ 24 := IMf hσ 5 (Int32.toNatClampNeg a1)
      have e18 := zt_1
      have e19 := zsub (σ 5 (Int32.toNatClampNeg a1)) 1 (by omega) (by omega)
      refine zk_call (s_X7_isIn (Int32.toInt64 a2) (Int32.toInt64 0) (Int32.toInt64 ((σ 5 (Int32.toNatClampNeg a1)) - 1)) σ hσ ) (fun r61 σ62 hp20 => ?_)
      obtain ⟨rfl, x21⟩ := hp20
      refine zk_ite (fun h25 => ?_) (fun h25 => ?_)
      · have g26 := zeq h25
        exact zk_some ⟨hσ, hi.rf⟩
      · have g27 := zne h25
        obtain ⟨_d22, _d23, _d24⟩ := x21.resolve_left h25
        refine zk_ite (fun h28 => ?_) (fun h28 => ?_)
        · have g29 := zeq h28
          refine zk_ite (fun h30 => ?_) (fun h30 => ?_)
          · have g31 := zeq h30
            have e32 := zt_m1000000005
            exact zk_some ⟨hσ, hi.rf⟩
          · have g33 := zne h30
            have e34 := zt_m1000000005
            unfold B_X7_mark_63
            refine zk_in z11 ?_
            refine zk_ite (fun h35 => ?_) (fun h35 => ?_)
            · have g36 := zeq h35
              refine zk_ite (fun h37 => ?_) (fun h37 => ?_)
              · have g38 := zeq h37
                unfold B_X7_mark_96
                refine zk_in z11 ?_
                refine zk_ite (fun h39 => ?_) (fun h39 => ?_)
                · have g40 := zeq h39
                  refine zk_let (fun y16 ey41 => ?_)
                  have z42 : zin ((24 * a1) + a2) 96 = true := zin_mkT (zTadd (zTmul (zTl zt_24) (zTs a1) (by omega) (by omega)) (zTs a2) (by omega) (by omega)) (by omega) (by omega)
                  refine zk_in z42 ?_
                  refine zk_let (fun σ22 q45 => ?_)
                  have hS43 : IMc σ22 := by rw [q45]; exact IMc.up hσ (zTs y16) trivial
                  have hH44 : hi σ σ22 := by rw [q45]; exact hi.upo hi.rf rfl
                  exact zk_some ⟨hS43, hH44⟩
                · have g46 := zne h39
                  have z47 : zin ((24 * a1) + a2) 96 = true := zin_mkT (zTadd (zTmul (zTl zt_24) (zTs a1) (by omega) (by omega)) (zTs a2) (by omega) (by omega)) (by omega) (by omega)
                  refine zk_in z47 ?_
                  refine zk_let (fun σ9 q50 => ?_)
                  have hS48 : IMc σ9 := by rw [q50]; exact IMc.up hσ (zTs a3) trivial
                  have hH49 : hi σ σ9 := by rw [q50]; exact hi.upo hi.rf rfl
                  exact zk_some ⟨hS48, hH49⟩
              · have g51 := zne h37
                have j52 := zI64 a3
                have j53 := zI64 (-99999)
                have e54 := zt_m99999
                have j55 := zI64 99999
                have e56 := zt_99999
                refine zk_call (s_X7_isIn (Int32.toInt64 a3) (Int32.toInt64 (-99999)) (Int32.toInt64 99999) σ hσ ) (fun r37 σ38 hp57 => ?_)
                obtain ⟨rfl, x58⟩ := hp57
                refine zk_ite (fun h62 => ?_) (fun h62 => ?_)
                · have g63 := zeq h62
                  exact zk_some ⟨hσ, hi.rf⟩
                · have g64 := zne h62
                  obtain ⟨_d59, _d60, _d61⟩ := x58.resolve_left h62
                  unfold B_X7_mark_96
                  refine zk_in z11 ?_
                  refine zk_ite (fun h65 => ?_) (fun h65 => ?_)
                  · have g66 := zeq h65
                    refine zk_let (fun y16 ey67 => ?_)
                    have z68 : zin ((24 * a1) + a2) 96 = true := zin_mkT (zTadd (zTmul (zTl zt_24) (zTs a1) (by omega) (by omega)) (zTs a2) (by omega) (by omega)) (by omega) (by omega)
                    refine zk_in z68 ?_
                    refine zk_let (fun σ22 q71 => ?_)
                    have hS69 : IMc σ22 := by rw [q71]; exact IMc.up hσ (zTs y16) trivial
                    have hH70 : hi σ σ22 := by rw [q71]; exact hi.upo hi.rf rfl
                    exact zk_some ⟨hS69, hH70⟩
                  · have g72 := zne h65
                    have z73 : zin ((24 * a1) + a2) 96 = true := zin_mkT (zTadd (zTmul (zTl zt_24) (zTs a1) (by omega) (by omega)) (zTs a2) (by omega) (by omega)) (by omega) (by omega)
                    refine zk_in z73 ?_
                    refine zk_let (fun σ9 q76 => ?_)
                    have hS74 : IMc σ9 := by rw [q76]; exact IMc.up hσ (zTs a3) trivial
                    have hH75 : hi σ σ9 := by rw [q76]; exact hi.upo hi.rf rfl
                    exact zk_some ⟨hS74, hH75⟩
            · have g77 := zne h35
              unfold B_X7_mark_96
              refine zk_in z11 ?_
              refine zk_ite (fun h78 => ?_) (fun h78 => ?_)
              · have g79 := zeq h78
                refine zk_let (fun y16 ey80 => ?_)
                have z81 : zin ((24 * a1) + a2) 96 = true := zin_mkT (zTadd (zTmul (zTl zt_24) (zTs a1) (by omega) (by omega)) (zTs a2) (by omega) (by omega)) (by omega) (by omega)
                refine zk_in z81 ?_
                refine zk_let (fun σ22 q84 => ?_)
                have hS82 : IMc σ22 := by rw [q84]; exact IMc.up hσ (zTs y16) trivial
                have hH83 : hi σ σ22 := by rw [q84]; exact hi.upo hi.rf rfl
                exact zk_some ⟨hS82, hH83⟩
              · have g85 := zne h78
                have z86 : zin ((24 * a1) + a2) 96 = true := zin_mkT (zTadd (zTmul (zTl zt_24) (zTs a1) (by omega) (by omega)) (zTs a2) (by omega) (by omega)) (by omega) (by omega)
                refine zk_in z86 ?_
                refine zk_let (fun σ9 q89 => ?_)
                have hS87 : IMc σ9 := by rw [q89]; exact IMc.up hσ (zTs a3) trivial
                have hH88 : hi σ σ9 := by rw [q89]; exact hi.upo hi.rf rfl
                exact zk_some ⟨hS87, hH88⟩
        · have g90 := zne h28
          unfold B_X7_mark_63
          refine zk_in z11 ?_
          refine zk_ite (fun h91 => ?_) (fun h91 => ?_)
          · have g92 := zeq h91
            refine zk_ite (fun h93 => ?_) (fun h93 => ?_)
            · have g94 := zeq h93
              have e95 := zt_m1000000005
              unfold B_X7_mark_96
              refine zk_in z11 ?_
              refine zk_ite (fun h96 => ?_) (fun h96 => ?_)
              · have g97 := zeq h96
                refine zk_let (fun y16 ey98 => ?_)
                have z99 : zin ((24 * a1) + a2) 96 = true := zin_mkT (zTadd (zTmul (zTl zt_24) (zTs a1) (by omega) (by omega)) (zTs a2) (by omega) (by omega)) (by omega) (by omega)
                refine zk_in z99 ?_
                refine zk_let (fun σ22 q102 => ?_)
                have hS100 : IMc σ22 := by rw [q102]; exact IMc.up hσ (zTs y16) trivial
                have hH101 : hi σ σ22 := by rw [q102]; exact hi.upo hi.rf rfl
                exact zk_some ⟨hS100, hH101⟩
              · have g103 := zne h96
                have z104 : zin ((24 * a1) + a2) 96 = true := zin_mkT (zTadd (zTmul (zTl zt_24) (zTs a1) (by omega) (by omega)) (zTs a2) (by omega) (by omega)) (by omega) (by omega)
                refine zk_in z104 ?_
                refine zk_let (fun σ9 q107 => ?_)
                have hS105 : IMc σ9 := by rw [q107]; exact IMc.up hσ (zTs a3) trivial
                have hH106 : hi σ σ9 := by rw [q107]; exact hi.upo hi.rf rfl
                exact zk_some ⟨hS105, hH106⟩
            · have g108 := zne h93
              have e109 := zt_m1000000005
              have j110 := zI64 a3
              have j111 := zI64 (-99999)
              have e112 := zt_m99999
              have j113 := zI64 99999
              have e114 := zt_99999
              refine zk_call (s_X7_isIn (Int32.toInt64 a3) (Int32.toInt64 (-99999)) (Int32.toInt64 99999) σ hσ ) (fun r37 σ38 hp115 => ?_)
              obtain ⟨rfl, x116⟩ := hp115
              refine zk_ite (fun h120 => ?_) (fun h120 => ?_)
              · have g121 := zeq h120
                exact zk_some ⟨hσ, hi.rf⟩
              · have g122 := zne h120
                obtain ⟨_d117, _d118, _d119⟩ := x116.resolve_left h120
                unfold B_X7_mark_96
                refine zk_in z11 ?_
                refine zk_ite (fun h123 => ?_) (fun h123 => ?_)
                · have g124 := zeq h123
                  refine zk_let (fun y16 ey125 => ?_)
                  have z126 : zin ((24 * a1) + a2) 96 = true := zin_mkT (zTadd (zTmul (zTl zt_24) (zTs a1) (by omega) (by omega)) (zTs a2) (by omega) (by omega)) (by omega) (by omega)
                  refine zk_in z126 ?_
                  refine zk_let (fun σ22 q129 => ?_)
                  have hS127 : IMc σ22 := by rw [q129]; exact IMc.up hσ (zTs y16) trivial
                  have hH128 : hi σ σ22 := by rw [q129]; exact hi.upo hi.rf rfl
                  exact zk_some ⟨hS127, hH128⟩
                · have g130 := zne h123
                  have z131 : zin ((24 * a1) + a2) 96 = true := zin_mkT (zTadd (zTmul (zTl zt_24) (zTs a1) (by omega) (by omega)) (zTs a2) (by omega) (by omega)) (by omega) (by omega)
                  refine zk_in z131 ?_
                  refine zk_let (fun σ9 q134 => ?_)
                  have hS132 : IMc σ9 := by rw [q134]; exact IMc.up hσ (zTs a3) trivial
                  have hH133 : hi σ σ9 := by rw [q134]; exact hi.upo hi.rf rfl
                  exact zk_some ⟨hS132, hH133⟩
          · have g135 := zne h91
            unfold B_X7_mark_96
            refine zk_in z11 ?_
            refine zk_ite (fun h136 => ?_) (fun h136 => ?_)
            · have g137 := zeq h136
              refine zk_let (fun y16 ey138 => ?_)
              have z139 : zin ((24 * a1) + a2) 96 = true := zin_mkT (zTadd (zTmul (zTl zt_24) (zTs a1) (by omega) (by omega)) (zTs a2) (by omega) (by omega)) (by omega) (by omega)
              refine zk_in z139 ?_
              refine zk_let (fun σ22 q142 => ?_)
              have hS140 : IMc σ22 := by rw [q142]; exact IMc.up hσ (zTs y16) trivial
              have hH141 : hi σ σ22 := by rw [q142]; exact hi.upo hi.rf rfl
              exact zk_some ⟨hS140, hH141⟩
            · have g143 := zne h136
              have z144 : zin ((24 * a1) + a2) 96 = true := zin_mkT (zTadd (zTmul (zTl zt_24) (zTs a1) (by omega) (by omega)) (zTs a2) (by omega) (by omega)) (by omega) (by omega)
              refine zk_in z144 ?_
              refine zk_let (fun σ9 q147 => ?_)
              have hS145 : IMc σ9 := by rw [q147]; exact IMc.up hσ (zTs a3) trivial
              have hH146 : hi σ σ9 := by rw [q147]; exact hi.upo hi.rf rfl
              exact zk_some ⟨hS145, hH146⟩
    · have g148 := znle h12
      exact zk_some ⟨hσ, hi.rf⟩

set_option maxHeartbeats 400000 in
theorem s_X7_mostOf (a1 : Int32) (σ : zg_S) (hσ : IMc σ)  : zk (f_X7_mostOf a1 σ) (fun r s => σ = s) := by
  unfold f_X7_mostOf
  refine zk_ite (fun h1 => ?_) (fun h1 => ?_)
  · have g2 := zeq h1
    have e3 := zt_0
    exact zk_some rfl
  · have g4 := zne h1
    have e5 := zt_0
    refine zk_ite (fun h6 => ?_) (fun h6 => ?_)
    · have g7 := zeq h6
      have e8 := zt_1
      exact zk_some rfl
    · have g9 := zne h6
      have e10 := zt_1
      refine zk_ite (fun h11 => ?_) (fun h11 => ?_)
      · have g12 := zeq h11
        have e13 := zt_2
        exact zk_some rfl
      · have g14 := zne h11
        have e15 := zt_2
        exact zk_some rfl
end
section
set_option maxHeartbeats 400000 in
theorem s_X7_pour (a1 : Int32) (σ : zg_S) (hσ : IMc σ)  : zk (f_X7_pour a1 σ) (fun r s => IMc s ∧ hi σ s) := by
  unfold f_X7_pour
  refine zk_call (s_X7_isSheet a1 σ hσ ) (fun r47 σ48 hp1 => ?_)
  obtain ⟨rfl, x2⟩ := hp1
  refine zk_ite (fun h6 => ?_) (fun h6 => ?_)
  · have g7 := zeq h6
    have e8 := zt_0
    exact zk_some ⟨hσ, hi.rf⟩
  · have g9 := zne h6
    have e10 := zt_0
    obtain ⟨_d3, _d4, _d5⟩ := x2.resolve_left h6
    have z11 : zin a1 4 = true := zin_mkT (zTs a1) (by omega) (by omega)
    refine zk_in z11 ?_
    refine zk_ite (fun h12 => ?_) (fun h12 => ?_)
    · have g13 := zle h12
      unfold L_X7_pour_27
      refine zl_II (fun (x2 : Int32) (x3 : Int32) (s27_ : zg_S) => IMc s27_ ∧ hi σ s27_ ∧ 0 ≤ x3.toInt ∧ x3.toInt ≤ 24) (fun (x2 : Int32) (x3 : Int32) (s27_ : zg_S) => (24 - x3.toInt).toNat) ?_ zfu 0 0 σ ⟨hσ, hi.rf, (by omega), (by omega)⟩ (by unfold zfu; omega)
      intro rec27_ x2 x3 s27_ hI14 ih27_
      obtain ⟨hS15, hH16, i17, i18⟩ := hI14
      unfold B_X7_pour_27
      refine zk_in z11 ?_
      refine zk_ite (fun h19 => ?_) (fun h19 => ?_)
      · have g20 := zle h19
        have f21 : 0 ≤ (s27_ 5 (Int32.toNatClampNeg a1)).toInt ∧ (s27_ 5 (Int32.toNatClampNeg a1)).toInt ≤ 24 := IMf hS15 5 (Int32.toNatClampNeg a1)
        exact zk_some ⟨hS15, hH16⟩
      · have g22 := znle h19
        have f23 : 0 ≤ (s27_ 5 (Int32.toNatClampNeg a1)).toInt ∧ (s27_ 5 (Int32.toNatClampNeg a1)).toInt ≤ 24 := IMf hS15 5 (Int32.toNatClampNeg a1)
        refine zk_ite (fun h24 => ?_) (fun h24 => ?_)
        · have g25 := zle h24
          have f26 : 0 ≤ (s27_ 1 0).toInt ∧ (s27_ 1 0).toInt ≤ 9 := IMf hS15 1 0
          exact zk_some ⟨hS15, hH16⟩
        · have g27 := znle h24
          have f28 : 0 ≤ (s27_ 1 0).toInt ∧ (s27_ 1 0).toInt ≤ 9 := IMf hS15 1 0
          have z29 : zin ((24 * a1) + x3) 96 = true := zin_mkT (zTadd (zTmul (zTl zt_24) (zTs a1) (by omega) (by omega)) (zTs x3) (by omega) (by omega)) (by omega) (by omega)
          refine zk_in z29 ?_
          refine zk_let (fun y29 ey30 => ?_)
          refine zk_ite (fun h31 => ?_) (fun h31 => ?_)
          · have g32 := zeq h31
            have e33 := zt_m1000000005
            have z34 : zin ((11 + (4 * x3)) + 2) 3047 = true := zin_mkT (zTadd (zTadd (zTl zt_11) (zTmul (zTl zt_4) (zTs x3) (by omega) (by omega)) (by omega) (by omega)) (zTl zt_2) (by omega) (by omega)) (by omega) (by omega)
            refine zk_in z34 ?_
            unfold B_X7_pour_91
            refine zk_call (s_X7_becomes ((11 + (4 * x3)) + 2) (s27_ 1 (Int32.toNatClampNeg ((11 + (4 * x3)) + 2))) s27_ hS15 (by rw [zTe (zTadd (zTadd (zTl zt_11) (zTmul (zTl zt_4) (zTs x3) (by omega) (by omega)) (by omega) (by omega)) (zTl zt_2) (by omega) (by omega))]; omega) (by rw [zTe (zTadd (zTadd (zTl zt_11) (zTmul (zTl zt_4) (zTs x3) (by omega) (by omega)) (by omega) (by omega)) (zTl zt_2) (by omega) (by omega))]; omega)) (fun r7 σ8 hp35 => ?_)
            obtain ⟨hS36, hH37⟩ := hp35
            refine zk_ite (fun h38 => ?_) (fun h38 => ?_)
            · have g39 := zeq h38
              unfold B_X7_pour_118
              exact ih27_ (x2 + 0) (x3 + 1) σ8 ⟨hS36, (hH16.tr hH37), (by rw [zTe (zTadd (zTs x3) (zTl zt_1) (by omega) (by omega))]; omega), (by rw [zTe (zTadd (zTs x3) (zTl zt_1) (by omega) (by omega))]; omega)⟩ (by show (24 - (x3 + 1).toInt).toNat < (24 - x3.toInt).toNat; rw [zTe (zTadd (zTs x3) (zTl zt_1) (by omega) (by omega))]; omega)
            · have g40 := zne h38
              unfold B_X7_pour_118
              exact ih27_ (x2 + 1) (x3 + 1) σ8 ⟨hS36, (hH16.tr hH37), (by rw [zTe (zTadd (zTs x3) (zTl zt_1) (by omega) (by omega))]; omega), (by rw [zTe (zTadd (zTs x3) (zTl zt_1) (by omega) (by omega))]; omega)⟩ (by show (24 - (x3 + 1).toInt).toNat < (24 - x3.toInt).toNat; rw [zTe (zTadd (zTs x3) (zTl zt_1) (by omega) (by omega))]; omega)
          · have g41 := zne h31
            have e42 := zt_m1000000005
            have e43 := zt_999
            refine zk_call (s_X7_within y29 999 s27_ hS15 ) (fun r36 σ37 hp44 => ?_)
            subst hp44
            unfold B_X7_pour_91
            refine zk_call (s_X7_becomes ((11 + (4 * x3)) + 2) r36 s27_ hS15 (by rw [zTe (zTadd (zTadd (zTl zt_11) (zTmul (zTl zt_4) (zTs x3) (by omega) (by omega)) (by omega) (by omega)) (zTl zt_2) (by omega) (by omega))]; omega) (by rw [zTe (zTadd (zTadd (zTl zt_11) (zTmul (zTl zt_4) (zTs x3) (by omega) (by omega)) (by omega) (by omega)) (zTl zt_2) (by omega) (by omega))]; omega)) (fun r7 σ8 hp45 => ?_)
            obtain ⟨hS46, hH47⟩ := hp45
            refine zk_ite (fun h48 => ?_) (fun h48 => ?_)
            · have g49 := zeq h48
              unfold B_X7_pour_118
              exact ih27_ (x2 + 0) (x3 + 1) σ8 ⟨hS46, (hH16.tr hH47), (by rw [zTe (zTadd (zTs x3) (zTl zt_1) (by omega) (by omega))]; omega), (by rw [zTe (zTadd (zTs x3) (zTl zt_1) (by omega) (by omega))]; omega)⟩ (by show (24 - (x3 + 1).toInt).toNat < (24 - x3.toInt).toNat; rw [zTe (zTadd (zTs x3) (zTl zt_1) (by omega) (by omega))]; omega)
            · have g50 := zne h48
              unfold B_X7_pour_118
              exact ih27_ (x2 + 1) (x3 + 1) σ8 ⟨hS46, (hH16.tr hH47), (by rw [zTe (zTadd (zTs x3) (zTl zt_1) (by omega) (by omega))]; omega), (by rw [zTe (zTadd (zTs x3) (zTl zt_1) (by omega) (by omega))]; omega)⟩ (by show (24 - (x3 + 1).toInt).toNat < (24 - x3.toInt).toNat; rw [zTe (zTadd (zTs x3) (zTl zt_1) (by omega) (by omega))]; omega)
    · have g51 := znle h12
      exact zk_some ⟨hσ, hi.rf⟩

set_option maxHeartbeats 400000 in
theorem s_X7_reads (a1 : Int32) (σ : zg_S) (hσ : IMc σ) (hW : WF (σ 1)) : zk (f_X7_reads a1 σ) (fun r s => IMc s ∧ hi σ s) := by
  unfold f_X7_reads
  refine zk_call (s_X7_isSheet a1 σ hσ ) (fun r33 σ34 hp1 => ?_)
  obtain ⟨rfl, x2⟩ := hp1
  refine zk_ite (fun h6 => ?_) (fun h6 => ?_)
  · have g7 := zeq h6
    have e8 := zt_0
    exact zk_some ⟨hσ, hi.rf⟩
  · have g9 := zne h6
    have e10 := zt_0
    obtain ⟨_d3, _d4, _d5⟩ := x2.resolve_left h6
    have z11 : zin a1 4 = true := zin_mkT (zTs a1) (by omega) (by omega)
    refine zk_in z11 ?_
    refine zk_ite (fun h12 => ?_) (fun h12 => ?_)
    · have g13 := zle h12
      unfold L_X7_reads_25
      refine zl_I (fun (x2 : Int32) (s25_ : zg_S) => IMc s25_ ∧ hi σ s25_ ∧ 0 ≤ x2.toInt ∧ x2.toInt ≤ 24) (fun (x2 : Int32) (s25_ : zg_S) => (24 - x2.toInt).toNat) ?_ zfu 0 σ ⟨hσ, hi.rf, (by omega), (by omega)⟩ (by unfold zfu; omega)
      intro rec25_ x2 s25_ hI14 ih25_
      obtain ⟨hS15, hH16, i17, i18⟩ := hI14
      unfold B_X7_reads_25
      refine zk_in z11 ?_
      refine zk_ite (fun h19 => ?_) (fun h19 => ?_)
      · have g20 := zle h19
        have f21 : 0 ≤ (s25_ 5 (Int32.toNatClampNeg a1)).toInt ∧ (s25_ 5 (Int32.toNatClampNeg a1)).toInt ≤ 24 := IMf hS15 5 (Int32.toNatClampNeg a1)
        exact zk_some ⟨hS15, hH16⟩
      · have g22 := znle h19
        have f23 : 0 ≤ (s25_ 5 (Int32.toNatClampNeg a1)).toInt ∧ (s25_ 5 (Int32.toNatClampNeg a1)).toInt ≤ 24 := IMf hS15 5 (Int32.toNatClampNeg a1)
        have z24 : zin ((24 * a1) + x2) 96 = true := zin_mkT (zTadd (zTmul (zTl zt_24) (zTs a1) (by omega) (by omega)) (zTs x2) (by omega) (by omega)) (by omega) (by omega)
        refine zk_in z24 ?_
        refine zk_let (fun y12 ey25 => ?_)
        refine zk_ite (fun h26 => ?_) (fun h26 => ?_)
        · have g27 := zeq h26
          have e28 := zt_m1000000005
          unfold B_X7_reads_74
          exact ih25_ (x2 + 1) s25_ ⟨hS15, hH16, (by rw [zTe (zTadd (zTs x2) (zTl zt_1) (by omega) (by omega))]; omega), (by rw [zTe (zTadd (zTs x2) (zTl zt_1) (by omega) (by omega))]; omega)⟩ (by show (24 - (x2 + 1).toInt).toNat < (24 - x2.toInt).toNat; rw [zTe (zTadd (zTs x2) (zTl zt_1) (by omega) (by omega))]; omega)
        · have g29 := zne h26
          have e30 := zt_m1000000005
          refine zk_ite (fun h31 => ?_) (fun h31 => ?_)
          · have g32 := zle h31
            have f33 : 0 ≤ (s25_ 1 0).toInt ∧ (s25_ 1 0).toInt ≤ 9 := IMf hS15 1 0
            exact zk_some ⟨hS15, hH16⟩
          · have g34 := znle h31
            have f35 : 0 ≤ (s25_ 1 0).toInt ∧ (s25_ 1 0).toInt ≤ 9 := IMf hS15 1 0
            refine zk_call (s_X7_spoils x2 s25_ hS15 (WF.hi hW hH16) (by omega) (by omega)) (fun r23 σ24 hp36 => ?_)
            obtain ⟨hS37, hH38⟩ := hp36
            refine zk_ite (fun h39 => ?_) (fun h39 => ?_)
            · have g40 := zeq h39
              unfold B_X7_reads_74
              exact ih25_ (x2 + 1) σ24 ⟨hS37, (hH16.tr hH38), (by rw [zTe (zTadd (zTs x2) (zTl zt_1) (by omega) (by omega))]; omega), (by rw [zTe (zTadd (zTs x2) (zTl zt_1) (by omega) (by omega))]; omega)⟩ (by show (24 - (x2 + 1).toInt).toNat < (24 - x2.toInt).toNat; rw [zTe (zTadd (zTs x2) (zTl zt_1) (by omega) (by omega))]; omega)
            · have g41 := zne h39
              exact zk_some ⟨hS37, (hH16.tr hH38)⟩
    · have g42 := znle h12
      exact zk_some ⟨hσ, hi.rf⟩

set_option maxHeartbeats 400000 in
theorem s_X7_rest (a1 : Int32) (a2 : Int32) (σ : zg_S) (hσ : IMc σ)  : zk (f_X7_rest a1 a2 σ) (fun r s => σ = s) := by
  unfold f_X7_rest
  refine zk_call (s_X7_isSlot a1 σ hσ ) (fun r1 σ2 hp1 => ?_)
  obtain ⟨rfl, x2⟩ := hp1
  refine zk_ite (fun h6 => ?_) (fun h6 => ?_)
  · have g7 := zeq h6
    have e8 := zt_0
    exact zk_some rfl
  · have g9 := zne h6
    have e10 := zt_0
    obtain ⟨_d3, _d4, _d5⟩ := x2.resolve_left h6
    have z11 : zin a1 5 = true := zin_mkT (zTs a1) (by omega) (by omega)
    refine zk_in z11 ?_
    refine zk_ite (fun h12 => ?_) (fun h12 => ?_)
    · have g13 := zeq h12
      have e14 := zt_3
      refine zk_ite (fun h15 => ?_) (fun h15 => ?_)
      · have g16 := zeq h15
        exact zk_some rfl
      · have g17 := zne h15
        refine zk_nz (by first | assumption | omega) ?_
        exact zk_some rfl
    · have g18 := zne h12
      have e19 := zt_3
      refine zk_ite (fun h20 => ?_) (fun h20 => ?_)
      · have g21 := zeq h20
        exact zk_some rfl
      · have g22 := zne h20
        exact zk_some rfl

set_option maxHeartbeats 400000 in
theorem s_X7_rule (a1 : Int32) (a2 : Int32) (σ : zg_S) (hσ : IMc σ)  : zk (f_X7_rule a1 a2 σ) (fun r s => IMc s ∧ hi σ s) := by
  unfold f_X7_rule
  have j1 := zI64 a1
  have j2 := zI64 0
  have e3 := zt_0
  have j4 := zI64 3
  have e5 := zt_3
  refine zk_call (s_X7_isIn (Int32.toInt64 a1) (Int32.toInt64 0) (Int32.toInt64 3) σ hσ ) (fun r34 σ35 hp6 => ?_)
  obtain ⟨rfl, x7⟩ := hp6
  refine zk_ite (fun h11 => ?_) (fun h11 => ?_)
  · have g12 := zeq h11
    exact zk_some ⟨hσ, hi.rf⟩
  · have g13 := zne h11
    obtain ⟨_d8, _d9, _d10⟩ := x7.resolve_left h11
    refine zk_ite (fun h14 => ?_) (fun h14 => ?_)
    · have g15 := zeq h14
      have e16 := zt_1
      unfold B_X7_rule_24
      refine zk_call (s_X7_mostOf a1 σ hσ ) (fun r1 σ2 hp17 => ?_)
      subst hp17
      have j18 := zI64 a2
      have j19 := zI64 1
      have j20 := zI64 r1
      refine zk_call (s_X7_isIn (Int32.toInt64 a2) (Int32.toInt64 1) (Int32.toInt64 r1) σ hσ ) (fun r8 σ9 hp21 => ?_)
      obtain ⟨rfl, x22⟩ := hp21
      refine zk_ite (fun h26 => ?_) (fun h26 => ?_)
      · have g27 := zeq h26
        exact zk_some ⟨hσ, hi.rf⟩
      · have g28 := zne h26
        obtain ⟨_d23, _d24, _d25⟩ := x22.resolve_left h26
        refine zk_call (s_X7_becomes (7 + a1) a2 σ hσ (by rw [zTe (zTadd (zTl zt_7) (zTs a1) (by omega) (by omega))]; omega) (by rw [zTe (zTadd (zTl zt_7) (zTs a1) (by omega) (by omega))]; omega)) (fun r17 σ18 hp29 => ?_)
        obtain ⟨hS30, hH31⟩ := hp29
        refine zk_call (s_X7_holds σ18 hS30 ) (fun r26 σ27 hp32 => ?_)
        obtain ⟨hS33, hH34⟩ := hp32
        exact zk_some ⟨hS33, ((hi.rf.tr hH31).tr hH34)⟩
    · have g35 := zne h14
      have e36 := zt_1
      unfold B_X7_rule_24
      refine zk_call (s_X7_mostOf a1 σ hσ ) (fun r1 σ2 hp37 => ?_)
      subst hp37
      have j38 := zI64 a2
      have j39 := zI64 r1
      refine zk_call (s_X7_isIn (Int32.toInt64 a2) (Int32.toInt64 0) (Int32.toInt64 r1) σ hσ ) (fun r8 σ9 hp40 => ?_)
      obtain ⟨rfl, x41⟩ := hp40
      refine zk_ite (fun h45 => ?_) (fun h45 => ?_)
      · have g46 := zeq h45
        exact zk_some ⟨hσ, hi.rf⟩
      · have g47 := zne h45
        obtain ⟨_d42, _d43, _d44⟩ := x41.resolve_left h45
        refine zk_call (s_X7_becomes (7 + a1) a2 σ hσ (by rw [zTe (zTadd (zTl zt_7) (zTs a1) (by omega) (by omega))]; omega) (by rw [zTe (zTadd (zTl zt_7) (zTs a1) (by omega) (by omega))]; omega)) (fun r17 σ18 hp48 => ?_)
        obtain ⟨hS49, hH50⟩ := hp48
        refine zk_call (s_X7_holds σ18 hS49 ) (fun r26 σ27 hp51 => ?_)
        obtain ⟨hS52, hH53⟩ := hp51
        exact zk_some ⟨hS52, ((hi.rf.tr hH50).tr hH53)⟩

set_option maxHeartbeats 400000 in
theorem s_X7_seed (a1 : Int32) (σ : zg_S) (hσ : IMc σ)  : zk (f_X7_seed a1 σ) (fun r s => IMc s ∧ hi σ s) := by
  unfold f_X7_seed
  have e1 := zt_6
  refine zk_call (s_X7_becomes 6 a1 σ hσ (by omega) (by omega)) (fun r1 σ2 hp2 => ?_)
  obtain ⟨hS3, hH4⟩ := hp2
  exact zk_some ⟨hS3, (hi.rf.tr hH4)⟩
end
section
set_option maxHeartbeats 400000 in
theorem s_X7_set (a1 : Int32) (a2 : Int32) (a3 : Int32) (σ : zg_S) (hσ : IMc σ)  : zk (f_X7_set a1 a2 a3 σ) (fun r s => IMc s ∧ hi σ s) := by
  unfold f_X7_set
  refine zk_call (s_X7_isStall a1 σ hσ ) (fun r18 σ19 hp1 => ?_)
  obtain ⟨rfl, x2⟩ := hp1
  have f3 : 0 ≤ (σ 1 0).toInt ∧ (σ 1 0).toInt ≤ 9 := IMf hσ 1 0
  refine zk_ite (fun h7 => ?_) (fun h7 => ?_)
  · have g8 := zeq h7
    have e9 := zt_0
    exact zk_some ⟨hσ, hi.rf⟩
  · have g10 := zne h7
    have e11 := zt_0
    obtain ⟨_d4, _d5, _d6⟩ := x2.resolve_left h7
    have j12 := zI64 a2
    have j13 := zI64 1
    have e14 := zt_1
    have j15 := zI64 3
    have e16 := zt_3
    refine zk_call (s_X7_isIn (Int32.toInt64 a2) (Int32.toInt64 1) (Int32.toInt64 3) σ hσ ) (fun r28 σ29 hp17 => ?_)
    obtain ⟨rfl, x18⟩ := hp17
    refine zk_ite (fun h22 => ?_) (fun h22 => ?_)
    · have g23 := zeq h22
      exact zk_some ⟨hσ, hi.rf⟩
    · have g24 := zne h22
      obtain ⟨_d19, _d20, _d21⟩ := x18.resolve_left h22
      refine zk_ite (fun h25 => ?_) (fun h25 => ?_)
      · have g26 := zeq h25
        unfold B_X7_set_48
        have j27 := zI64 a3
        have j28 := zI64 0
        have j29 := zI64 11
        have e30 := zt_11
        refine zk_call (s_X7_isIn (Int32.toInt64 a3) (Int32.toInt64 0) (Int32.toInt64 11) σ hσ ) (fun r1 σ2 hp31 => ?_)
        obtain ⟨rfl, x32⟩ := hp31
        refine zk_ite (fun h36 => ?_) (fun h36 => ?_)
        · have g37 := zeq h36
          exact zk_some ⟨hσ, hi.rf⟩
        · have g38 := zne h36
          obtain ⟨_d33, _d34, _d35⟩ := x32.resolve_left h36
          refine zk_call (s_X7_becomes ((11 + (4 * a1)) + a2) a3 σ hσ (by rw [zTe (zTadd (zTadd (zTl zt_11) (zTmul (zTl zt_4) (zTs a1) (by omega) (by omega)) (by omega) (by omega)) (zTs a2) (by omega) (by omega))]; omega) (by rw [zTe (zTadd (zTadd (zTl zt_11) (zTmul (zTl zt_4) (zTs a1) (by omega) (by omega)) (by omega) (by omega)) (zTs a2) (by omega) (by omega))]; omega)) (fun r10 σ11 hp39 => ?_)
          obtain ⟨hS40, hH41⟩ := hp39
          exact zk_some ⟨hS40, (hi.rf.tr hH41)⟩
      · have g42 := zne h25
        refine zk_ite (fun h43 => ?_) (fun h43 => ?_)
        · have g44 := zeq h43
          have e45 := zt_2
          unfold B_X7_set_48
          have j46 := zI64 a3
          have j47 := zI64 0
          have j48 := zI64 999
          have e49 := zt_999
          refine zk_call (s_X7_isIn (Int32.toInt64 a3) (Int32.toInt64 0) (Int32.toInt64 999) σ hσ ) (fun r1 σ2 hp50 => ?_)
          obtain ⟨rfl, x51⟩ := hp50
          refine zk_ite (fun h55 => ?_) (fun h55 => ?_)
          · have g56 := zeq h55
            exact zk_some ⟨hσ, hi.rf⟩
          · have g57 := zne h55
            obtain ⟨_d52, _d53, _d54⟩ := x51.resolve_left h55
            refine zk_call (s_X7_becomes ((11 + (4 * a1)) + a2) a3 σ hσ (by rw [zTe (zTadd (zTadd (zTl zt_11) (zTmul (zTl zt_4) (zTs a1) (by omega) (by omega)) (by omega) (by omega)) (zTs a2) (by omega) (by omega))]; omega) (by rw [zTe (zTadd (zTadd (zTl zt_11) (zTmul (zTl zt_4) (zTs a1) (by omega) (by omega)) (by omega) (by omega)) (zTs a2) (by omega) (by omega))]; omega)) (fun r10 σ11 hp58 => ?_)
            obtain ⟨hS59, hH60⟩ := hp58
            exact zk_some ⟨hS59, (hi.rf.tr hH60)⟩
        · have g61 := zne h43
          have e62 := zt_2
          unfold B_X7_set_48
          have j63 := zI64 a3
          have j64 := zI64 0
          have j65 := zI64 99
          have e66 := zt_99
          refine zk_call (s_X7_isIn (Int32.toInt64 a3) (Int32.toInt64 0) (Int32.toInt64 99) σ hσ ) (fun r1 σ2 hp67 => ?_)
          obtain ⟨rfl, x68⟩ := hp67
          refine zk_ite (fun h72 => ?_) (fun h72 => ?_)
          · have g73 := zeq h72
            exact zk_some ⟨hσ, hi.rf⟩
          · have g74 := zne h72
            obtain ⟨_d69, _d70, _d71⟩ := x68.resolve_left h72
            refine zk_call (s_X7_becomes ((11 + (4 * a1)) + a2) a3 σ hσ (by rw [zTe (zTadd (zTadd (zTl zt_11) (zTmul (zTl zt_4) (zTs a1) (by omega) (by omega)) (by omega) (by omega)) (zTs a2) (by omega) (by omega))]; omega) (by rw [zTe (zTadd (zTadd (zTl zt_11) (zTmul (zTl zt_4) (zTs a1) (by omega) (by omega)) (by omega) (by omega)) (zTs a2) (by omega) (by omega))]; omega)) (fun r10 σ11 hp75 => ?_)
            obtain ⟨hS76, hH77⟩ := hp75
            exact zk_some ⟨hS76, (hi.rf.tr hH77)⟩
end
section
set_option maxHeartbeats 400000 in
theorem s_X7_sheet (a1 : Int32) (a2 : Int32) (a3 : Int32) (σ : zg_S) (hσ : IMc σ)  : zk (f_X7_sheet a1 a2 a3 σ) (fun r s => IMc s ∧ hi σ s) := by
  unfold f_X7_sheet
  refine zk_call (s_X7_isSheet a1 σ hσ ) (fun r47 σ48 hp1 => ?_)
  obtain ⟨rfl, x2⟩ := hp1
  refine zk_ite (fun h6 => ?_) (fun h6 => ?_)
  · have g7 := zeq h6
    have e8 := zt_0
    exact zk_some ⟨hσ, hi.rf⟩
  · have g9 := zne h6
    have e10 := zt_0
    obtain ⟨_d3, _d4, _d5⟩ := x2.resolve_left h6
    have j11 := zI64 a2
    have j12 := zI64 (-1)
    have e13 := zt_m1
    have j14 := zI64 1
    have e15 := zt_1
    refine zk_call (s_X7_isIn (Int32.toInt64 a2) (Int32.toInt64 (-1)) (Int32.toInt64 1) σ hσ ) (fun r57 σ58 hp16 => ?_)
    obtain ⟨rfl, x17⟩ := hp16
    refine zk_ite (fun h21 => ?_) (fun h21 => ?_)
    · have g22 := zeq h21
      exact zk_some ⟨hσ, hi.rf⟩
    · have g23 := zne h21
      obtain ⟨_d18, _d19, _d20⟩ := x17.resolve_left h21
      refine zk_ite (fun h24 => ?_) (fun h24 => ?_)
      · have g25 := zlt h24
        unfold B_X7_sheet_32
        refine zk_ite (fun h26 => ?_) (fun h26 => ?_)
        · have g27 := zlt h26
          unfold B_X7_sheet_44
          have z28 : zin a1 4 = true := zin_mkT (zTs a1) (by omega) (by omega)
          refine zk_in z28 ?_
          refine zk_let (fun σ32 q31 => ?_)
          have hS29 : IMc σ32 := by rw [q31]; exact IMc.up hσ (zTs a2) trivial
          have hH30 : hi σ σ32 := by rw [q31]; exact hi.upo hi.rf rfl
          refine zk_ite (fun h32 => ?_) (fun h32 => ?_)
          · have g33 := zle h32
            unfold B_X7_sheet_65
            refine zk_in z28 ?_
            refine zk_let (fun σ21 q36 => ?_)
            have hS34 : IMc σ21 := by rw [q36]; exact IMc.up hS29 (zTs a3) ⟨by omega, by omega⟩
            have hH35 : hi σ σ21 := by rw [q36]; exact hi.upo hH30 rfl
            unfold L_X7_sheet_69
            refine zl_I (fun (x4 : Int32) (s69_ : zg_S) => IMc s69_ ∧ hi σ s69_ ∧ 0 ≤ x4.toInt ∧ x4.toInt ≤ 24) (fun (x4 : Int32) (s69_ : zg_S) => (24 - x4.toInt).toNat) ?_ zfu 0 σ21 ⟨hS34, hH35, (by omega), (by omega)⟩ (by unfold zfu; omega)
            intro rec69_ x4 s69_ hI37 ih69_
            obtain ⟨hS38, hH39, i40, i41⟩ := hI37
            unfold B_X7_sheet_69
            refine zk_ite (fun h42 => ?_) (fun h42 => ?_)
            · have g43 := zle h42
              have e44 := zt_24
              refine zk_in z28 ?_
              exact zk_some ⟨hS38, hH39⟩
            · have g45 := znle h42
              have e46 := zt_24
              have z47 : zin ((24 * a1) + x4) 96 = true := zin_mkT (zTadd (zTmul (zTl zt_24) (zTs a1) (by omega) (by omega)) (zTs x4) (by omega) (by omega)) (by omega) (by omega)
              refine zk_in z47 ?_
              refine zk_let (fun σ10 q50 => ?_)
              have hS48 : IMc σ10 := by rw [q50]; exact IMc.up hS38 (zTs 0) trivial
              have hH49 : hi σ σ10 := by rw [q50]; exact hi.upo hH39 rfl
              exact ih69_ (x4 + 1) σ10 ⟨hS48, hH49, (by rw [zTe (zTadd (zTs x4) (zTl zt_1) (by omega) (by omega))]; omega), (by rw [zTe (zTadd (zTs x4) (zTl zt_1) (by omega) (by omega))]; omega)⟩ (by show (24 - (x4 + 1).toInt).toNat < (24 - x4.toInt).toNat; rw [zTe (zTadd (zTs x4) (zTl zt_1) (by omega) (by omega))]; omega)
          · have g51 := znle h32
            unfold B_X7_sheet_65
            refine zk_in z28 ?_
            refine zk_let (fun σ21 q54 => ?_)
            have hS52 : IMc σ21 := by rw [q54]; exact IMc.up hS29 (zTl zt_0) ⟨by omega, by omega⟩
            have hH53 : hi σ σ21 := by rw [q54]; exact hi.upo hH30 rfl
            unfold L_X7_sheet_69
            refine zl_I (fun (x4 : Int32) (s69_ : zg_S) => IMc s69_ ∧ hi σ s69_ ∧ 0 ≤ x4.toInt ∧ x4.toInt ≤ 24) (fun (x4 : Int32) (s69_ : zg_S) => (24 - x4.toInt).toNat) ?_ zfu 0 σ21 ⟨hS52, hH53, (by omega), (by omega)⟩ (by unfold zfu; omega)
            intro rec69_ x4 s69_ hI55 ih69_
            obtain ⟨hS56, hH57, i58, i59⟩ := hI55
            unfold B_X7_sheet_69
            refine zk_ite (fun h60 => ?_) (fun h60 => ?_)
            · have g61 := zle h60
              have e62 := zt_24
              refine zk_in z28 ?_
              exact zk_some ⟨hS56, hH57⟩
            · have g63 := znle h60
              have e64 := zt_24
              have z65 : zin ((24 * a1) + x4) 96 = true := zin_mkT (zTadd (zTmul (zTl zt_24) (zTs a1) (by omega) (by omega)) (zTs x4) (by omega) (by omega)) (by omega) (by omega)
              refine zk_in z65 ?_
              refine zk_let (fun σ10 q68 => ?_)
              have hS66 : IMc σ10 := by rw [q68]; exact IMc.up hS56 (zTs 0) trivial
              have hH67 : hi σ σ10 := by rw [q68]; exact hi.upo hH57 rfl
              exact ih69_ (x4 + 1) σ10 ⟨hS66, hH67, (by rw [zTe (zTadd (zTs x4) (zTl zt_1) (by omega) (by omega))]; omega), (by rw [zTe (zTadd (zTs x4) (zTl zt_1) (by omega) (by omega))]; omega)⟩ (by show (24 - (x4 + 1).toInt).toNat < (24 - x4.toInt).toNat; rw [zTe (zTadd (zTs x4) (zTl zt_1) (by omega) (by omega))]; omega)
        · have g69 := znlt h26
          refine zk_ite (fun h70 => ?_) (fun h70 => ?_)
          · have g71 := zle h70
            unfold B_X7_sheet_44
            have z72 : zin a1 4 = true := zin_mkT (zTs a1) (by omega) (by omega)
            refine zk_in z72 ?_
            refine zk_let (fun σ32 q75 => ?_)
            have hS73 : IMc σ32 := by rw [q75]; exact IMc.up hσ (zTs a2) trivial
            have hH74 : hi σ σ32 := by rw [q75]; exact hi.upo hi.rf rfl
            refine zk_ite (fun h76 => ?_) (fun h76 => ?_)
            · have g77 := zle h76
              unfold B_X7_sheet_65
              refine zk_in z72 ?_
              refine zk_let (fun σ21 q80 => ?_)
              have hS78 : IMc σ21 := by rw [q80]; exact IMc.up hS73 (zTs a3) ⟨by omega, by omega⟩
              have hH79 : hi σ σ21 := by rw [q80]; exact hi.upo hH74 rfl
              unfold L_X7_sheet_69
              refine zl_I (fun (x4 : Int32) (s69_ : zg_S) => IMc s69_ ∧ hi σ s69_ ∧ 0 ≤ x4.toInt ∧ x4.toInt ≤ 24) (fun (x4 : Int32) (s69_ : zg_S) => (24 - x4.toInt).toNat) ?_ zfu 0 σ21 ⟨hS78, hH79, (by omega), (by omega)⟩ (by unfold zfu; omega)
              intro rec69_ x4 s69_ hI81 ih69_
              obtain ⟨hS82, hH83, i84, i85⟩ := hI81
              unfold B_X7_sheet_69
              refine zk_ite (fun h86 => ?_) (fun h86 => ?_)
              · have g87 := zle h86
                have e88 := zt_24
                refine zk_in z72 ?_
                exact zk_some ⟨hS82, hH83⟩
              · have g89 := znle h86
                have e90 := zt_24
                have z91 : zin ((24 * a1) + x4) 96 = true := zin_mkT (zTadd (zTmul (zTl zt_24) (zTs a1) (by omega) (by omega)) (zTs x4) (by omega) (by omega)) (by omega) (by omega)
                refine zk_in z91 ?_
                refine zk_let (fun σ10 q94 => ?_)
                have hS92 : IMc σ10 := by rw [q94]; exact IMc.up hS82 (zTs 0) trivial
                have hH93 : hi σ σ10 := by rw [q94]; exact hi.upo hH83 rfl
                exact ih69_ (x4 + 1) σ10 ⟨hS92, hH93, (by rw [zTe (zTadd (zTs x4) (zTl zt_1) (by omega) (by omega))]; omega), (by rw [zTe (zTadd (zTs x4) (zTl zt_1) (by omega) (by omega))]; omega)⟩ (by show (24 - (x4 + 1).toInt).toNat < (24 - x4.toInt).toNat; rw [zTe (zTadd (zTs x4) (zTl zt_1) (by omega) (by omega))]; omega)
            · have g95 := znle h76
              unfold B_X7_sheet_65
              refine zk_in z72 ?_
              refine zk_let (fun σ21 q98 => ?_)
              have hS96 : IMc σ21 := by rw [q98]; exact IMc.up hS73 (zTl zt_0) ⟨by omega, by omega⟩
              have hH97 : hi σ σ21 := by rw [q98]; exact hi.upo hH74 rfl
              unfold L_X7_sheet_69
              refine zl_I (fun (x4 : Int32) (s69_ : zg_S) => IMc s69_ ∧ hi σ s69_ ∧ 0 ≤ x4.toInt ∧ x4.toInt ≤ 24) (fun (x4 : Int32) (s69_ : zg_S) => (24 - x4.toInt).toNat) ?_ zfu 0 σ21 ⟨hS96, hH97, (by omega), (by omega)⟩ (by unfold zfu; omega)
              intro rec69_ x4 s69_ hI99 ih69_
              obtain ⟨hS100, hH101, i102, i103⟩ := hI99
              unfold B_X7_sheet_69
              refine zk_ite (fun h104 => ?_) (fun h104 => ?_)
              · have g105 := zle h104
                have e106 := zt_24
                refine zk_in z72 ?_
                exact zk_some ⟨hS100, hH101⟩
              · have g107 := znle h104
                have e108 := zt_24
                have z109 : zin ((24 * a1) + x4) 96 = true := zin_mkT (zTadd (zTmul (zTl zt_24) (zTs a1) (by omega) (by omega)) (zTs x4) (by omega) (by omega)) (by omega) (by omega)
                refine zk_in z109 ?_
                refine zk_let (fun σ10 q112 => ?_)
                have hS110 : IMc σ10 := by rw [q112]; exact IMc.up hS100 (zTs 0) trivial
                have hH111 : hi σ σ10 := by rw [q112]; exact hi.upo hH101 rfl
                exact ih69_ (x4 + 1) σ10 ⟨hS110, hH111, (by rw [zTe (zTadd (zTs x4) (zTl zt_1) (by omega) (by omega))]; omega), (by rw [zTe (zTadd (zTs x4) (zTl zt_1) (by omega) (by omega))]; omega)⟩ (by show (24 - (x4 + 1).toInt).toNat < (24 - x4.toInt).toNat; rw [zTe (zTadd (zTs x4) (zTl zt_1) (by omega) (by omega))]; omega)
          · have g113 := znle h70
            exact zk_some ⟨hσ, hi.rf⟩
      · have g114 := znlt h24
        refine zk_ite (fun h115 => ?_) (fun h115 => ?_)
        · have g116 := zle h115
          have e117 := zt_24
          unfold B_X7_sheet_32
          refine zk_ite (fun h118 => ?_) (fun h118 => ?_)
          · have g119 := zlt h118
            unfold B_X7_sheet_44
            have z120 : zin a1 4 = true := zin_mkT (zTs a1) (by omega) (by omega)
            refine zk_in z120 ?_
            refine zk_let (fun σ32 q123 => ?_)
            have hS121 : IMc σ32 := by rw [q123]; exact IMc.up hσ (zTs a2) trivial
            have hH122 : hi σ σ32 := by rw [q123]; exact hi.upo hi.rf rfl
            refine zk_ite (fun h124 => ?_) (fun h124 => ?_)
            · have g125 := zle h124
              unfold B_X7_sheet_65
              refine zk_in z120 ?_
              refine zk_let (fun σ21 q128 => ?_)
              have hS126 : IMc σ21 := by rw [q128]; exact IMc.up hS121 (zTs a3) ⟨by omega, by omega⟩
              have hH127 : hi σ σ21 := by rw [q128]; exact hi.upo hH122 rfl
              unfold L_X7_sheet_69
              refine zl_I (fun (x4 : Int32) (s69_ : zg_S) => IMc s69_ ∧ hi σ s69_ ∧ 0 ≤ x4.toInt ∧ x4.toInt ≤ 24) (fun (x4 : Int32) (s69_ : zg_S) => (24 - x4.toInt).toNat) ?_ zfu 0 σ21 ⟨hS126, hH127, (by omega), (by omega)⟩ (by unfold zfu; omega)
              intro rec69_ x4 s69_ hI129 ih69_
              obtain ⟨hS130, hH131, i132, i133⟩ := hI129
              unfold B_X7_sheet_69
              refine zk_ite (fun h134 => ?_) (fun h134 => ?_)
              · have g135 := zle h134
                have e136 := zt_24
                refine zk_in z120 ?_
                exact zk_some ⟨hS130, hH131⟩
              · have g137 := znle h134
                have e138 := zt_24
                have z139 : zin ((24 * a1) + x4) 96 = true := zin_mkT (zTadd (zTmul (zTl zt_24) (zTs a1) (by omega) (by omega)) (zTs x4) (by omega) (by omega)) (by omega) (by omega)
                refine zk_in z139 ?_
                refine zk_let (fun σ10 q142 => ?_)
                have hS140 : IMc σ10 := by rw [q142]; exact IMc.up hS130 (zTs 0) trivial
                have hH141 : hi σ σ10 := by rw [q142]; exact hi.upo hH131 rfl
                exact ih69_ (x4 + 1) σ10 ⟨hS140, hH141, (by rw [zTe (zTadd (zTs x4) (zTl zt_1) (by omega) (by omega))]; omega), (by rw [zTe (zTadd (zTs x4) (zTl zt_1) (by omega) (by omega))]; omega)⟩ (by show (24 - (x4 + 1).toInt).toNat < (24 - x4.toInt).toNat; rw [zTe (zTadd (zTs x4) (zTl zt_1) (by omega) (by omega))]; omega)
            · have g143 := znle h124
              unfold B_X7_sheet_65
              refine zk_in z120 ?_
              refine zk_let (fun σ21 q146 => ?_)
              have hS144 : IMc σ21 := by rw [q146]; exact IMc.up hS121 (zTl zt_0) ⟨by omega, by omega⟩
              have hH145 : hi σ σ21 := by rw [q146]; exact hi.upo hH122 rfl
              unfold L_X7_sheet_69
              refine zl_I (fun (x4 : Int32) (s69_ : zg_S) => IMc s69_ ∧ hi σ s69_ ∧ 0 ≤ x4.toInt ∧ x4.toInt ≤ 24) (fun (x4 : Int32) (s69_ : zg_S) => (24 - x4.toInt).toNat) ?_ zfu 0 σ21 ⟨hS144, hH145, (by omega), (by omega)⟩ (by unfold zfu; omega)
              intro rec69_ x4 s69_ hI147 ih69_
              obtain ⟨hS148, hH149, i150, i151⟩ := hI147
              unfold B_X7_sheet_69
              refine zk_ite (fun h152 => ?_) (fun h152 => ?_)
              · have g153 := zle h152
                have e154 := zt_24
                refine zk_in z120 ?_
                exact zk_some ⟨hS148, hH149⟩
              · have g155 := znle h152
                have e156 := zt_24
                have z157 : zin ((24 * a1) + x4) 96 = true := zin_mkT (zTadd (zTmul (zTl zt_24) (zTs a1) (by omega) (by omega)) (zTs x4) (by omega) (by omega)) (by omega) (by omega)
                refine zk_in z157 ?_
                refine zk_let (fun σ10 q160 => ?_)
                have hS158 : IMc σ10 := by rw [q160]; exact IMc.up hS148 (zTs 0) trivial
                have hH159 : hi σ σ10 := by rw [q160]; exact hi.upo hH149 rfl
                exact ih69_ (x4 + 1) σ10 ⟨hS158, hH159, (by rw [zTe (zTadd (zTs x4) (zTl zt_1) (by omega) (by omega))]; omega), (by rw [zTe (zTadd (zTs x4) (zTl zt_1) (by omega) (by omega))]; omega)⟩ (by show (24 - (x4 + 1).toInt).toNat < (24 - x4.toInt).toNat; rw [zTe (zTadd (zTs x4) (zTl zt_1) (by omega) (by omega))]; omega)
          · have g161 := znlt h118
            refine zk_ite (fun h162 => ?_) (fun h162 => ?_)
            · have g163 := zle h162
              unfold B_X7_sheet_44
              have z164 : zin a1 4 = true := zin_mkT (zTs a1) (by omega) (by omega)
              refine zk_in z164 ?_
              refine zk_let (fun σ32 q167 => ?_)
              have hS165 : IMc σ32 := by rw [q167]; exact IMc.up hσ (zTs a2) trivial
              have hH166 : hi σ σ32 := by rw [q167]; exact hi.upo hi.rf rfl
              refine zk_ite (fun h168 => ?_) (fun h168 => ?_)
              · have g169 := zle h168
                unfold B_X7_sheet_65
                refine zk_in z164 ?_
                refine zk_let (fun σ21 q172 => ?_)
                have hS170 : IMc σ21 := by rw [q172]; exact IMc.up hS165 (zTs a3) ⟨by omega, by omega⟩
                have hH171 : hi σ σ21 := by rw [q172]; exact hi.upo hH166 rfl
                unfold L_X7_sheet_69
                refine zl_I (fun (x4 : Int32) (s69_ : zg_S) => IMc s69_ ∧ hi σ s69_ ∧ 0 ≤ x4.toInt ∧ x4.toInt ≤ 24) (fun (x4 : Int32) (s69_ : zg_S) => (24 - x4.toInt).toNat) ?_ zfu 0 σ21 ⟨hS170, hH171, (by omega), (by omega)⟩ (by unfold zfu; omega)
                intro rec69_ x4 s69_ hI173 ih69_
                obtain ⟨hS174, hH175, i176, i177⟩ := hI173
                unfold B_X7_sheet_69
                refine zk_ite (fun h178 => ?_) (fun h178 => ?_)
                · have g179 := zle h178
                  have e180 := zt_24
                  refine zk_in z164 ?_
                  exact zk_some ⟨hS174, hH175⟩
                · have g181 := znle h178
                  have e182 := zt_24
                  have z183 : zin ((24 * a1) + x4) 96 = true := zin_mkT (zTadd (zTmul (zTl zt_24) (zTs a1) (by omega) (by omega)) (zTs x4) (by omega) (by omega)) (by omega) (by omega)
                  refine zk_in z183 ?_
                  refine zk_let (fun σ10 q186 => ?_)
                  have hS184 : IMc σ10 := by rw [q186]; exact IMc.up hS174 (zTs 0) trivial
                  have hH185 : hi σ σ10 := by rw [q186]; exact hi.upo hH175 rfl
                  exact ih69_ (x4 + 1) σ10 ⟨hS184, hH185, (by rw [zTe (zTadd (zTs x4) (zTl zt_1) (by omega) (by omega))]; omega), (by rw [zTe (zTadd (zTs x4) (zTl zt_1) (by omega) (by omega))]; omega)⟩ (by show (24 - (x4 + 1).toInt).toNat < (24 - x4.toInt).toNat; rw [zTe (zTadd (zTs x4) (zTl zt_1) (by omega) (by omega))]; omega)
              · have g187 := znle h168
                unfold B_X7_sheet_65
                refine zk_in z164 ?_
                refine zk_let (fun σ21 q190 => ?_)
                have hS188 : IMc σ21 := by rw [q190]; exact IMc.up hS165 (zTl zt_0) ⟨by omega, by omega⟩
                have hH189 : hi σ σ21 := by rw [q190]; exact hi.upo hH166 rfl
                unfold L_X7_sheet_69
                refine zl_I (fun (x4 : Int32) (s69_ : zg_S) => IMc s69_ ∧ hi σ s69_ ∧ 0 ≤ x4.toInt ∧ x4.toInt ≤ 24) (fun (x4 : Int32) (s69_ : zg_S) => (24 - x4.toInt).toNat) ?_ zfu 0 σ21 ⟨hS188, hH189, (by omega), (by omega)⟩ (by unfold zfu; omega)
                intro rec69_ x4 s69_ hI191 ih69_
                obtain ⟨hS192, hH193, i194, i195⟩ := hI191
                unfold B_X7_sheet_69
                refine zk_ite (fun h196 => ?_) (fun h196 => ?_)
                · have g197 := zle h196
                  have e198 := zt_24
                  refine zk_in z164 ?_
                  exact zk_some ⟨hS192, hH193⟩
                · have g199 := znle h196
                  have e200 := zt_24
                  have z201 : zin ((24 * a1) + x4) 96 = true := zin_mkT (zTadd (zTmul (zTl zt_24) (zTs a1) (by omega) (by omega)) (zTs x4) (by omega) (by omega)) (by omega) (by omega)
                  refine zk_in z201 ?_
                  refine zk_let (fun σ10 q204 => ?_)
                  have hS202 : IMc σ10 := by rw [q204]; exact IMc.up hS192 (zTs 0) trivial
                  have hH203 : hi σ σ10 := by rw [q204]; exact hi.upo hH193 rfl
                  exact ih69_ (x4 + 1) σ10 ⟨hS202, hH203, (by rw [zTe (zTadd (zTs x4) (zTl zt_1) (by omega) (by omega))]; omega), (by rw [zTe (zTadd (zTs x4) (zTl zt_1) (by omega) (by omega))]; omega)⟩ (by show (24 - (x4 + 1).toInt).toNat < (24 - x4.toInt).toNat; rw [zTe (zTadd (zTs x4) (zTl zt_1) (by omega) (by omega))]; omega)
            · have g205 := znle h162
              exact zk_some ⟨hσ, hi.rf⟩
        · have g206 := znle h115
          have e207 := zt_24
          exact zk_some ⟨hσ, hi.rf⟩
end
section
set_option maxHeartbeats 400000 in
theorem s_X7_stall (a1 : Int32) (a2 : Int32) (a3 : Int32) (σ : zg_S) (hσ : IMc σ)  : zk (f_X7_stall a1 a2 a3 σ) (fun r s => IMc s ∧ hi σ s) := by
  unfold f_X7_stall
  have j1 := zI64 a1
  have j2 := zI64 0
  have e3 := zt_0
  have j4 := zI64 5
  have e5 := zt_5
  refine zk_call (s_X7_isIn (Int32.toInt64 a1) (Int32.toInt64 0) (Int32.toInt64 5) σ hσ ) (fun r1 σ2 hp6 => ?_)
  obtain ⟨rfl, x7⟩ := hp6
  refine zk_ite (fun h11 => ?_) (fun h11 => ?_)
  · have g12 := zeq h11
    exact zk_some ⟨hσ, hi.rf⟩
  · have g13 := zne h11
    obtain ⟨_d8, _d9, _d10⟩ := x7.resolve_left h11
    have j14 := zI64 a2
    have j15 := zI64 11
    have e16 := zt_11
    refine zk_call (s_X7_isIn (Int32.toInt64 a2) (Int32.toInt64 0) (Int32.toInt64 11) σ hσ ) (fun r11 σ12 hp17 => ?_)
    obtain ⟨rfl, x18⟩ := hp17
    refine zk_ite (fun h22 => ?_) (fun h22 => ?_)
    · have g23 := zeq h22
      exact zk_some ⟨hσ, hi.rf⟩
    · have g24 := zne h22
      obtain ⟨_d19, _d20, _d21⟩ := x18.resolve_left h22
      have j25 := zI64 a3
      have j26 := zI64 99
      have e27 := zt_99
      refine zk_call (s_X7_isIn (Int32.toInt64 a3) (Int32.toInt64 0) (Int32.toInt64 99) σ hσ ) (fun r21 σ22 hp28 => ?_)
      obtain ⟨rfl, x29⟩ := hp28
      refine zk_ite (fun h33 => ?_) (fun h33 => ?_)
      · have g34 := zeq h33
        exact zk_some ⟨hσ, hi.rf⟩
      · have g35 := zne h33
        obtain ⟨_d30, _d31, _d32⟩ := x29.resolve_left h33
        refine zk_ite (fun h36 => ?_) (fun h36 => ?_)
        · have g37 := zeq h36
          have f38 : 0 ≤ (σ 1 0).toInt ∧ (σ 1 0).toInt ≤ 9 := IMf hσ 1 0
          have e39 := zt_9
          exact zk_some ⟨hσ, hi.rf⟩
        · have g40 := zne h36
          have f41 : 0 ≤ (σ 1 0).toInt ∧ (σ 1 0).toInt ≤ 9 := IMf hσ 1 0
          have e42 := zt_9
          refine zk_call (s_X7_comes a1 a2 a3 σ hσ (by omega)) (fun r32 σ33 hp43 => ?_)
          obtain ⟨hS44, hH45⟩ := hp43
          exact zk_some ⟨hS44, (hi.rf.tr hH45)⟩

set_option maxHeartbeats 400000 in
theorem s_X7_tell (a1 : Int32) (σ : zg_S) (hσ : IMc σ)  : zk (f_X7_tell a1 σ) (fun r s => IMc s ∧ hi σ s) := by
  unfold f_X7_tell
  refine zk_ite (fun h1 => ?_) (fun h1 => ?_)
  · have g2 := zeq h1
    have f3 : 0 ≤ (σ 0 29).toInt ∧ (σ 0 29).toInt ≤ 60 := IMf hσ 0 29
    have e4 := zt_60
    exact zk_some ⟨hσ, hi.rf⟩
  · have g5 := zne h1
    have f6 : 0 ≤ (σ 0 29).toInt ∧ (σ 0 29).toInt ≤ 60 := IMf hσ 0 29
    have e7 := zt_60
    have z8 : zin (σ 0 29) 60 = true := zin_mkT (zTs (σ 0 29)) (by omega) (by omega)
    refine zk_in z8 ?_
    refine zk_let (fun σ6 q11 => ?_)
    have hS9 : IMc σ6 := by rw [q11]; exact IMc.up hσ (zTs a1) trivial
    have hH10 : hi σ σ6 := by rw [q11]; exact hi.upo hi.rf rfl
    have kp12 : σ6 0 29 = σ 0 29 := by rw [q11]; exact congrFun (zup_ne rfl) 29
    refine zk_let (fun σ12 q15 => ?_)
    have g16 := congrArg Int32.toInt (kp12.trans rfl)
    have f17 : 0 ≤ (σ6 0 29).toInt ∧ (σ6 0 29).toInt ≤ 60 := IMf hS9 0 29
    have hS13 : IMc σ12 := by rw [q15]; exact IMc.up hS9 (zTadd (zTs (σ6 0 29)) (zTl zt_1) (by omega) (by omega)) ⟨by omega, by omega⟩
    have g18 : (σ12 0 29).toInt = ((σ6 0 29).toInt + 1) := by rw [q15]; exact (congrArg Int32.toInt zgot).trans (zTe (zTadd (zTs (σ6 0 29)) (zTl zt_1) (by omega) (by omega)))
    have hH14 : hi σ σ12 := by rw [q15]; exact hi.up0 hH10 rfl
    exact zk_some ⟨hS13, hH14⟩

set_option maxHeartbeats 400000 in
theorem s_X7_textTold (a1 : Int32) (a2 : Int32) (σ : zg_S) (hσ : IMc σ)  : zk (f_X7_textTold a1 a2 σ) (fun r s => σ = s) := by
  unfold f_X7_textTold
  refine zk_call (s_X7_isText a1 σ hσ ) (fun r1 σ2 hp1 => ?_)
  obtain ⟨rfl, x2⟩ := hp1
  have f3 : 0 ≤ (σ 1 1).toInt ∧ (σ 1 1).toInt ≤ 14 := IMf hσ 1 1
  refine zk_ite (fun h7 => ?_) (fun h7 => ?_)
  · have g8 := zeq h7
    have e9 := zt_0
    exact zk_some rfl
  · have g10 := zne h7
    have e11 := zt_0
    obtain ⟨_d4, _d5, _d6⟩ := x2.resolve_left h7
    have j12 := zI64 a2
    have j13 := zI64 0
    have j14 := zI64 1
    have e15 := zt_1
    refine zk_call (s_X7_isIn (Int32.toInt64 a2) (Int32.toInt64 0) (Int32.toInt64 1) σ hσ ) (fun r11 σ12 hp16 => ?_)
    obtain ⟨rfl, x17⟩ := hp16
    refine zk_ite (fun h21 => ?_) (fun h21 => ?_)
    · have g22 := zeq h21
      exact zk_some rfl
    · have g23 := zne h21
      obtain ⟨_d18, _d19, _d20⟩ := x17.resolve_left h21
      refine zk_call (s_X7_textAt a1 σ hσ (by omega) (by omega)) (fun r20 σ21 hp24 => ?_)
      obtain ⟨rfl, x25⟩ := hp24
      have z26 : zin (r20 + a2) 3047 = true := zin_mkT (zTadd (zTs r20) (zTs a2) (by omega) (by omega)) (by omega) (by omega)
      refine zk_in z26 ?_
      exact zk_some rfl

set_option maxHeartbeats 400000 in
theorem s_X7_told (a1 : Int32) (a2 : Int32) (σ : zg_S) (hσ : IMc σ) (hW : WF (σ 1)) : zk (f_X7_told a1 a2 σ) (fun r s => IMc s ∧ hi σ s) := by
  unfold f_X7_told
  refine zk_call (s_X7_isStall a1 σ hσ ) (fun r8 σ9 hp1 => ?_)
  obtain ⟨rfl, x2⟩ := hp1
  have f3 : 0 ≤ (σ 1 0).toInt ∧ (σ 1 0).toInt ≤ 9 := IMf hσ 1 0
  refine zk_ite (fun h7 => ?_) (fun h7 => ?_)
  · have g8 := zeq h7
    have e9 := zt_0
    exact zk_some ⟨hσ, hi.rf⟩
  · have g10 := zne h7
    have e11 := zt_0
    obtain ⟨_d4, _d5, _d6⟩ := x2.resolve_left h7
    refine zk_ite (fun h12 => ?_) (fun h12 => ?_)
    · have g13 := zeq h12
      unfold B_X7_told_56
      refine zk_call (s_X7_of a1 a2 σ hσ (by omega) (by omega) (by omega) (by omega)) (fun r1 σ2 hp14 => ?_)
      subst hp14
      exact zk_some ⟨hσ, hi.rf⟩
    · have g15 := zne h12
      refine zk_ite (fun h16 => ?_) (fun h16 => ?_)
      · have g17 := zeq h16
        have e18 := zt_1
        unfold B_X7_told_56
        refine zk_call (s_X7_of a1 a2 σ hσ (by omega) (by omega) (by omega) (by omega)) (fun r1 σ2 hp19 => ?_)
        subst hp19
        exact zk_some ⟨hσ, hi.rf⟩
      · have g20 := zne h16
        have e21 := zt_1
        refine zk_ite (fun h22 => ?_) (fun h22 => ?_)
        · have g23 := zeq h22
          have e24 := zt_2
          unfold B_X7_told_56
          refine zk_call (s_X7_of a1 a2 σ hσ (by omega) (by omega) (by omega) (by omega)) (fun r1 σ2 hp25 => ?_)
          subst hp25
          exact zk_some ⟨hσ, hi.rf⟩
        · have g26 := zne h22
          have e27 := zt_2
          refine zk_ite (fun h28 => ?_) (fun h28 => ?_)
          · have g29 := zeq h28
            have e30 := zt_3
            unfold B_X7_told_56
            refine zk_call (s_X7_of a1 a2 σ hσ (by omega) (by omega) (by omega) (by omega)) (fun r1 σ2 hp31 => ?_)
            subst hp31
            exact zk_some ⟨hσ, hi.rf⟩
          · have g32 := zne h28
            have e33 := zt_3
            refine zk_ite (fun h34 => ?_) (fun h34 => ?_)
            · have g35 := zeq h34
              have e36 := zt_4
              refine zk_call (s_X7_spoils a1 σ hσ (WF.hi hW hi.rf) (by omega) (by omega)) (fun r31 σ32 hp37 => ?_)
              obtain ⟨hS38, hH39⟩ := hp37
              exact zk_some ⟨hS38, (hi.rf.tr hH39)⟩
            · have g40 := zne h34
              have e41 := zt_4
              refine zk_ite (fun h42 => ?_) (fun h42 => ?_)
              · have g43 := zeq h42
                have e44 := zt_5
                refine zk_call (s_X7_isShaded a1 σ hσ (by omega) (by omega)) (fun r41 σ42 hp45 => ?_)
                obtain ⟨rfl, x46⟩ := hp45
                refine zk_ite (fun h47 => ?_) (fun h47 => ?_)
                · have g48 := zeq h47
                  exact zk_some ⟨hσ, hi.rf⟩
                · have g49 := zne h47
                  exact zk_some ⟨hσ, hi.rf⟩
              · have g50 := zne h42
                have e51 := zt_5
                refine zk_ite (fun h52 => ?_) (fun h52 => ?_)
                · have g53 := zeq h52
                  have e54 := zt_6
                  refine zk_call (s_X7_worth a1 σ hσ (by omega) (by omega)) (fun r54 σ55 hp55 => ?_)
                  subst hp55
                  exact zk_some ⟨hσ, hi.rf⟩
                · have g56 := zne h52
                  have e57 := zt_6
                  exact zk_some ⟨hσ, hi.rf⟩

set_option maxHeartbeats 400000 in
theorem s_X7_trim (a1 : Int32) (σ : zg_S) (hσ : IMc σ)  : zk (f_X7_trim a1 σ) (fun r s => IMc s ∧ hi σ s) := by
  unfold f_X7_trim
  have j1 := zI64 a1
  have j2 := zI64 0
  have e3 := zt_0
  have j4 := zI64 (σ 0 14)
  have f5 : 0 ≤ (σ 0 14).toInt ∧ (σ 0 14).toInt ≤ 96 := IMf hσ 0 14
  refine zk_call (s_X7_isIn (Int32.toInt64 a1) (Int32.toInt64 0) (Int32.toInt64 (σ 0 14)) σ hσ ) (fun r1 σ2 hp6 => ?_)
  obtain ⟨rfl, x7⟩ := hp6
  refine zk_ite (fun h11 => ?_) (fun h11 => ?_)
  · have g12 := zeq h11
    exact zk_some ⟨hσ, hi.rf⟩
  · have g13 := zne h11
    obtain ⟨_d8, _d9, _d10⟩ := x7.resolve_left h11
    refine zk_let (fun σ10 q16 => ?_)
    have hS14 : IMc σ10 := by rw [q16]; exact IMc.up hσ (zTs a1) ⟨by omega, by omega⟩
    have g17 : (σ10 0 14).toInt = a1.toInt := by rw [q16]; exact (congrArg Int32.toInt zgot).trans (zTe (zTs a1))
    have hH15 : hi σ σ10 := by rw [q16]; exact hi.up0 hi.rf rfl
    exact zk_some ⟨hS14, hH15⟩

set_option maxHeartbeats 400000 in
theorem s_X7_turns (a1 : Int32) (a2 : Int32) (σ : zg_S) (hσ : IMc σ)  : zk (f_X7_turns a1 a2 σ) (fun r s => IMc s ∧ hi σ s) := by
  unfold f_X7_turns
  refine zk_call (s_X7_isStall a1 σ hσ ) (fun r1 σ2 hp1 => ?_)
  obtain ⟨rfl, x2⟩ := hp1
  have f3 : 0 ≤ (σ 1 0).toInt ∧ (σ 1 0).toInt ≤ 9 := IMf hσ 1 0
  refine zk_ite (fun h7 => ?_) (fun h7 => ?_)
  · have g8 := zeq h7
    have e9 := zt_0
    exact zk_some ⟨hσ, hi.rf⟩
  · have g10 := zne h7
    have e11 := zt_0
    obtain ⟨_d4, _d5, _d6⟩ := x2.resolve_left h7
    have j12 := zI64 a2
    have j13 := zI64 0
    have j14 := zI64 5
    have e15 := zt_5
    refine zk_call (s_X7_isIn (Int32.toInt64 a2) (Int32.toInt64 0) (Int32.toInt64 5) σ hσ ) (fun r11 σ12 hp16 => ?_)
    obtain ⟨rfl, x17⟩ := hp16
    refine zk_ite (fun h21 => ?_) (fun h21 => ?_)
    · have g22 := zeq h21
      exact zk_some ⟨hσ, hi.rf⟩
    · have g23 := zne h21
      obtain ⟨_d18, _d19, _d20⟩ := x17.resolve_left h21
      refine zk_call (s_X7_becomes (11 + (4 * a1)) a2 σ hσ (by rw [zTe (zTadd (zTl zt_11) (zTmul (zTl zt_4) (zTs a1) (by omega) (by omega)) (by omega) (by omega))]; omega) (by rw [zTe (zTadd (zTl zt_11) (zTmul (zTl zt_4) (zTs a1) (by omega) (by omega)) (by omega) (by omega))]; omega)) (fun r21 σ22 hp24 => ?_)
      obtain ⟨hS25, hH26⟩ := hp24
      exact zk_some ⟨hS25, (hi.rf.tr hH26)⟩

set_option maxHeartbeats 400000 in
theorem s_X7_why (a1 : Int32) (σ : zg_S) (hσ : IMc σ)  : zk (f_X7_why a1 σ) (fun r s => σ = s) := by
  unfold f_X7_why
  have j1 := zI64 a1
  have j2 := zI64 0
  have e3 := zt_0
  have j4 := zI64 2
  have e5 := zt_2
  refine zk_call (s_X7_isIn (Int32.toInt64 a1) (Int32.toInt64 0) (Int32.toInt64 2) σ hσ ) (fun r1 σ2 hp6 => ?_)
  obtain ⟨rfl, x7⟩ := hp6
  refine zk_ite (fun h11 => ?_) (fun h11 => ?_)
  · have g12 := zeq h11
    exact zk_some rfl
  · have g13 := zne h11
    obtain ⟨_d8, _d9, _d10⟩ := x7.resolve_left h11
    refine zk_call (s_X7_counts a1 σ hσ ) (fun r11 σ12 hp14 => ?_)
    obtain ⟨rfl, x15, x16⟩ := hp14
    have f17 : 0 ≤ (σ 1 1).toInt ∧ (σ 1 1).toInt ≤ 14 := IMf hσ 1 1
    refine zk_call (s_X7_orNone r11 σ hσ ) (fun r18 σ19 hp18 => ?_)
    subst hp18
    exact zk_some rfl
end
section
theorem zt_2847 : (2847 : Int32).toInt = 2847 := by decide
theorem zkeepn {σ : zg_S} {p k k' : Nat} {v : Int32} (h : k' ≠ k) : zg_up σ p k v p k' = σ p k' := by
  unfold zg_up
  rw [zg_row_eq]
  exact pk_un h
set_option maxHeartbeats 400000 in
theorem s_X7_setAside (q1 q2 : Nat) (σ : zg_S) (hσ : IMc σ) (h1 : 2847 ≤ mln q1) (h2 : 2847 ≤ mln q2) (hne : q1 ≠ q2) (hc : ∀ k v, mconI q1 k v → mconI q2 k v) : zk (f_X7_setAside q1 q2 σ) (fun _ s => IMc s ∧ (∀ k, k < 2847 → s q2 k = σ q1 k) ∧ (∀ k, 2847 ≤ k → s q2 k = σ q2 k) ∧ ∀ p, p ≠ q2 → s p = σ p) := by
  have e0 := zt_0
  have e9 := zt_2847
  have l1 : (ML).2.2 q1 = mln q1 := rfl
  have l2 : (ML).2.2 q2 = mln q2 := rfl
  unfold f_X7_setAside L_X7_setAside_2
  refine zl_I (fun (x : Int32) (s : zg_S) => IMc s ∧ (∀ k : Nat, (k : Int) < x.toInt → s q2 k = σ q1 k) ∧ (∀ k : Nat, x.toInt ≤ k → s q2 k = σ q2 k) ∧ (∀ p, p ≠ q2 → s p = σ p) ∧ 0 ≤ x.toInt ∧ x.toInt ≤ 2847) (fun (x : Int32) (_ : zg_S) => (2847 - x.toInt).toNat) ?_ zfu _ _ ⟨hσ, fun k hk => by omega, fun k _ => rfl, fun p _ => rfl, by omega, by omega⟩ (by unfold zfu; omega)
  intro rec x s hI ih
  obtain ⟨hs, ha, hb, hp, i1, i2⟩ := hI
  unfold B_X7_setAside_2
  refine zk_ite (fun h => ?_) (fun h => ?_)
  · have g := zle h
    exact zk_some ⟨hs, fun k hk => ha k (by omega), fun k hk => hb k (by omega), hp⟩
  · have g := znle h
    refine zk_in (zin_mk i1 (by rw [l1]; omega)) ?_
    refine zk_let (fun y ey => ?_)
    refine zk_in (zin_mk i1 (by rw [l2]; omega)) ?_
    refine zk_let (fun t q => ?_)
    have hn := ztn i1
    have ex := zTe (zTadd (zTs x) (zTl zt_1) (by omega) (by omega))
    refine ih (x + 1) t ⟨?_, ?_, ?_, ?_, ?_, ?_⟩ ?_
    · rw [q]
      exact IMc.up hs (zTs y) (hc _ _ (by rw [ey, hp q1 hne]; exact hσ q1 _))
    · intro k hk
      rw [ex] at hk
      rw [q]
      by_cases e : k = x.toNatClampNeg
      · subst e
        exact zgot.trans (by rw [ey, hp q1 hne])
      · exact (zkeepn e).trans (ha k (by omega))
    · intro k hk
      rw [ex] at hk
      rw [q]
      exact (zkeepn (by omega)).trans (hb k (by omega))
    · intro p' h'
      rw [q]
      exact (zg_row_ne h').trans (hp p' h')
    · rw [ex]; omega
    · rw [ex]; omega
    · show (2847 - (x + 1).toInt).toNat < (2847 - x.toInt).toNat
      rw [ex]
      omega
theorem mc_1_12 (k : Nat) (v : Int) (h : mconI 1 k v) : mconI 12 k v := h
theorem mc_12_1 (k : Nat) (v : Int) (h : mconI 12 k v) : mconI 1 k v := h
theorem mc_1_2 (k : Nat) (v : Int) (h : mconI 1 k v) : mconI 2 k v := h
theorem mc_1_3 (k : Nat) (v : Int) (h : mconI 1 k v) : mconI 3 k v := h
theorem mc_2_1 (k : Nat) (v : Int) (h : mconI 2 k v) : mconI 1 k v := h
theorem mc_3_1 (k : Nat) (v : Int) (h : mconI 3 k v) : mconI 1 k v := h
set_option maxHeartbeats 400000 in
theorem s_X7_laysBy (σ : zg_S) (hσ : IMc σ) : zk (f_X7_laysBy σ) (fun _ s => IMc s ∧ (∀ k, k < 47 → s 12 k = σ 1 k) ∧ ∀ p, p ≠ 12 → s p = σ p) := by
  have e0 := zt_0
  have e9 := zt_47
  unfold f_X7_laysBy L_X7_laysBy_2
  refine zl_I (fun (x : Int32) (s : zg_S) => IMc s ∧ (∀ k : Nat, (k : Int) < x.toInt → s 12 k = σ 1 k) ∧ (∀ p, p ≠ 12 → s p = σ p) ∧ 0 ≤ x.toInt ∧ x.toInt ≤ 47) (fun (x : Int32) (_ : zg_S) => (47 - x.toInt).toNat) ?_ zfu _ _ ⟨hσ, fun k hk => by omega, fun p _ => rfl, by omega, by omega⟩ (by unfold zfu; omega)
  intro rec x s hI ih
  obtain ⟨hs, ha, hp, i1, i2⟩ := hI
  unfold B_X7_laysBy_2
  refine zk_ite (fun h => ?_) (fun h => ?_)
  · have g := zle h
    exact zk_some ⟨hs, fun k hk => ha k (by omega), hp⟩
  · have g := znle h
    refine zk_in (zin_mk i1 (by omega)) ?_
    refine zk_in (zin_mk i1 (by omega)) ?_
    refine zk_let (fun t q => ?_)
    have hn := ztn i1
    have ex := zTe (zTadd (zTs x) (zTl zt_1) (by omega) (by omega))
    refine ih (x + 1) t ⟨?_, ?_, ?_, ?_, ?_⟩ ?_
    · rw [q]
      exact IMc.up hs (zTs _) (mc_1_12 _ _ (hs 1 _))
    · intro k hk
      rw [ex] at hk
      rw [q]
      by_cases e : k = x.toNatClampNeg
      · subst e
        exact zgot.trans (by rw [hp 1 (by decide)])
      · exact (zkeepn e).trans (ha k (by omega))
    · intro p' h'
      rw [q]
      exact (zg_row_ne h').trans (hp p' h')
    · rw [ex]; omega
    · rw [ex]; omega
    · show (47 - (x + 1).toInt).toNat < (47 - x.toInt).toNat
      rw [ex]
      omega
set_option maxHeartbeats 400000 in
theorem s_X7_laysBack (σ : zg_S) (hσ : IMc σ) : zk (f_X7_laysBack σ) (fun _ s => IMc s ∧ (∀ k, k < 47 → s 1 k = σ 12 k) ∧ (∀ k, 47 ≤ k → s 1 k = σ 1 k) ∧ ∀ p, p ≠ 1 → s p = σ p) := by
  have e0 := zt_0
  have e9 := zt_47
  unfold f_X7_laysBack L_X7_laysBack_2
  refine zl_I (fun (x : Int32) (s : zg_S) => IMc s ∧ (∀ k : Nat, (k : Int) < x.toInt → s 1 k = σ 12 k) ∧ (∀ k : Nat, x.toInt ≤ k → s 1 k = σ 1 k) ∧ (∀ p, p ≠ 1 → s p = σ p) ∧ 0 ≤ x.toInt ∧ x.toInt ≤ 47) (fun (x : Int32) (_ : zg_S) => (47 - x.toInt).toNat) ?_ zfu _ _ ⟨hσ, fun k hk => by omega, fun k _ => rfl, fun p _ => rfl, by omega, by omega⟩ (by unfold zfu; omega)
  intro rec x s hI ih
  obtain ⟨hs, ha, hb, hp, i1, i2⟩ := hI
  unfold B_X7_laysBack_2
  refine zk_ite (fun h => ?_) (fun h => ?_)
  · have g := zle h
    exact zk_some ⟨hs, fun k hk => ha k (by omega), fun k hk => hb k (by omega), hp⟩
  · have g := znle h
    refine zk_in (zin_mk i1 (by omega)) ?_
    refine zk_let (fun y ey => ?_)
    refine zk_in (zin_mk i1 (by omega)) ?_
    refine zk_let (fun t q => ?_)
    have hn := ztn i1
    have ex := zTe (zTadd (zTs x) (zTl zt_1) (by omega) (by omega))
    refine ih (x + 1) t ⟨?_, ?_, ?_, ?_, ?_, ?_⟩ ?_
    · rw [q]
      exact IMc.up hs (zTs y) (mc_12_1 _ _ (by rw [ey]; exact hs 12 _))
    · intro k hk
      rw [ex] at hk
      rw [q]
      by_cases e : k = x.toNatClampNeg
      · subst e
        exact zgot.trans (by rw [ey, hp 12 (by decide)])
      · exact (zkeepn e).trans (ha k (by omega))
    · intro k hk
      rw [ex] at hk
      rw [q]
      exact (zkeepn (by omega)).trans (hb k (by omega))
    · intro p' h'
      rw [q]
      exact (zg_row_ne h').trans (hp p' h')
    · rw [ex]; omega
    · rw [ex]; omega
    · show (47 - (x + 1).toInt).toNat < (47 - x.toInt).toNat
      rw [ex]
      omega
end
section
/-- what the reference keeps: its bounds, its texts well formed, the image's too -/
def IM (τ : zg_S) : Prop := IMc τ ∧ WF (τ 1) ∧ (¬ τ 0 3 = 0 → WF (τ 2))
theorem IM.hi {σ s : zg_S} (h : IM σ) (hs : IMc s) (hh : hi σ s) : IM s := ⟨hs, h.2.1.hi hh, fun hn => by rw [hh.2.2.1]; exact h.2.2 (by rw [← hh.2.2.2.2.2]; exact hn)⟩
theorem WF_eq2 {f g : Nat → Int32} (hN : (f 1).toInt ≤ 14) (h : ∀ i, i < 2847 → g i = f i) (w : WF f) : WF g := by
  intro t ht
  rw [h 1 (by omega)] at ht
  exact wfT_eq (fun j hj => h _ (by omega)) (w t ht)
theorem m_back (σ : zg_S) (h : IM σ) : zk (f_X7_back σ) (fun _ s => IM s) := by
  obtain ⟨hc, w1, w2⟩ := h
  unfold f_X7_back
  refine zk_ite (fun _ => zk_some ⟨hc, w1, w2⟩) (fun hn => ?_)
  refine zk_call (s_X7_setAside 2 1 σ hc (by decide) (by decide) (by decide) mc_2_1) (fun r s hp => ?_)
  obtain ⟨hs, ha, hb, hp⟩ := hp
  refine zk_some ⟨hs, WF_eq2 (hc 2 1).2 ha (w2 hn), fun _ => ?_⟩
  rw [hp 2 (by decide)]
  exact w2 hn
theorem m_keep (σ : zg_S) (h : IM σ) : zk (f_X7_keep σ) (fun _ s => IM s) := by
  obtain ⟨hc, w1, w2⟩ := h
  unfold f_X7_keep
  refine zk_let (fun s1 q1 => ?_)
  have h1 : IMc s1 := by rw [q1]; exact IMc.up hc (zTs 1) trivial
  have r1 : s1 1 = σ 1 := by rw [q1]; exact zup_ne rfl
  refine zk_call (s_X7_setAside 1 2 s1 h1 (by decide) (by decide) (by decide) mc_1_2) (fun r s hp => ?_)
  obtain ⟨hs, ha, hb, hp⟩ := hp
  exact zk_some ⟨hs, by rw [hp 1 (by decide), r1]; exact w1, fun _ => WF_eq2 (h1 1 1).2 ha (by rw [r1]; exact w1)⟩
end
section
theorem zl_0 {bot : zg_S → Option (Int32 × zg_S)} {F : (zg_S → Option (Int32 × zg_S)) → zg_S → Option (Int32 × zg_S)} {P : Int32 → zg_S → Prop} (I : zg_S → Prop) (μ : zg_S → Nat) (h : ∀ (rec : zg_S → Option (Int32 × zg_S))  (s : zg_S), I  s → (∀  (t : zg_S), I  t → μ  t < μ  s → zk (rec  t) P) → zk (F rec  s) P) : ∀ (n : Nat)  (s : zg_S), I  s → μ  s < n → zk (zfix bot F n  s) P := by
  intro n
  induction n with
  | zero => intro  s _ hm; omega
  | succ n ih => intro  s hI hm; exact h (zfix bot F n)  s hI (fun  t hI' hm' => ih  t hI' (by omega))
theorem zl_IIII {bot : Int32 → Int32 → Int32 → Int32 → zg_S → Option (Int32 × zg_S)} {F : (Int32 → Int32 → Int32 → Int32 → zg_S → Option (Int32 × zg_S)) → Int32 → Int32 → Int32 → Int32 → zg_S → Option (Int32 × zg_S)} {P : Int32 → zg_S → Prop} (I : Int32 → Int32 → Int32 → Int32 → zg_S → Prop) (μ : Int32 → Int32 → Int32 → Int32 → zg_S → Nat) (h : ∀ (rec : Int32 → Int32 → Int32 → Int32 → zg_S → Option (Int32 × zg_S)) (x0 : Int32) (x1 : Int32) (x2 : Int32) (x3 : Int32) (s : zg_S), I x0 x1 x2 x3 s → (∀ (y0 : Int32) (y1 : Int32) (y2 : Int32) (y3 : Int32) (t : zg_S), I y0 y1 y2 y3 t → μ y0 y1 y2 y3 t < μ x0 x1 x2 x3 s → zk (rec y0 y1 y2 y3 t) P) → zk (F rec x0 x1 x2 x3 s) P) : ∀ (n : Nat) (x0 : Int32) (x1 : Int32) (x2 : Int32) (x3 : Int32) (s : zg_S), I x0 x1 x2 x3 s → μ x0 x1 x2 x3 s < n → zk (zfix bot F n x0 x1 x2 x3 s) P := by
  intro n
  induction n with
  | zero => intro x0 x1 x2 x3 s _ hm; omega
  | succ n ih => intro x0 x1 x2 x3 s hI hm; exact h (zfix bot F n) x0 x1 x2 x3 s hI (fun y0 y1 y2 y3 t hI' hm' => ih y0 y1 y2 y3 t hI' (by omega))
theorem zl_IIIII {bot : Int32 → Int32 → Int32 → Int32 → Int32 → zg_S → Option (Int32 × zg_S)} {F : (Int32 → Int32 → Int32 → Int32 → Int32 → zg_S → Option (Int32 × zg_S)) → Int32 → Int32 → Int32 → Int32 → Int32 → zg_S → Option (Int32 × zg_S)} {P : Int32 → zg_S → Prop} (I : Int32 → Int32 → Int32 → Int32 → Int32 → zg_S → Prop) (μ : Int32 → Int32 → Int32 → Int32 → Int32 → zg_S → Nat) (h : ∀ (rec : Int32 → Int32 → Int32 → Int32 → Int32 → zg_S → Option (Int32 × zg_S)) (x0 : Int32) (x1 : Int32) (x2 : Int32) (x3 : Int32) (x4 : Int32) (s : zg_S), I x0 x1 x2 x3 x4 s → (∀ (y0 : Int32) (y1 : Int32) (y2 : Int32) (y3 : Int32) (y4 : Int32) (t : zg_S), I y0 y1 y2 y3 y4 t → μ y0 y1 y2 y3 y4 t < μ x0 x1 x2 x3 x4 s → zk (rec y0 y1 y2 y3 y4 t) P) → zk (F rec x0 x1 x2 x3 x4 s) P) : ∀ (n : Nat) (x0 : Int32) (x1 : Int32) (x2 : Int32) (x3 : Int32) (x4 : Int32) (s : zg_S), I x0 x1 x2 x3 x4 s → μ x0 x1 x2 x3 x4 s < n → zk (zfix bot F n x0 x1 x2 x3 x4 s) P := by
  intro n
  induction n with
  | zero => intro x0 x1 x2 x3 x4 s _ hm; omega
  | succ n ih => intro x0 x1 x2 x3 x4 s hI hm; exact h (zfix bot F n) x0 x1 x2 x3 x4 s hI (fun y0 y1 y2 y3 y4 t hI' hm' => ih y0 y1 y2 y3 y4 t hI' (by omega))
theorem m_isIn (a lo hi : Int32) (σ : zg_S) (hσ : IMc σ) : zk (f_X7_isIn (Int32.toInt64 a) (Int32.toInt64 lo) (Int32.toInt64 hi) σ) (fun r s => σ = s ∧ (r = 0 ∨ (r = 1 ∧ lo.toInt ≤ a.toInt ∧ a.toInt ≤ hi.toInt))) := by
  refine zk_mono (s_X7_isIn _ _ _ σ hσ) (fun r s h => ⟨h.1, ?_⟩)
  have h := h.2
  rw [zI64, zI64, zI64] at h
  exact h
/-- what is only thought: the row close holds what is to come back -/
def BY (σ s : zg_S) : Prop := IMc s ∧ (∀ k, k < 47 → s 12 k = σ 1 k) ∧ s 1 1 = σ 1 1 ∧ (∀ k, 47 ≤ k → s 1 k = σ 1 k) ∧ s 2 = σ 2 ∧ s 0 3 = σ 0 3
theorem BY.go {σ s t : zg_S} (b : BY σ s) (ht : IMc t) (h : hi s t) : BY σ t := ⟨ht, fun k hk => by rw [h.2.2.2.2.1]; exact b.2.1 k hk, h.1.trans b.2.2.1, fun k hk => (h.2.1 k hk).trans (b.2.2.2.1 k hk), h.2.2.1.trans b.2.2.2.2.1, h.2.2.2.2.2.trans b.2.2.2.2.2⟩
theorem BY.wf {σ s : zg_S} (b : BY σ s) (h : WF (σ 1)) : WF (s 1) := WF_eq b.2.2.1 b.2.2.2.1 h
theorem BY.done {σ s : zg_S} (h : IM σ) (b : BY σ s) (e : s 1 = σ 1) : IM s := ⟨b.1, by rw [e]; exact h.2.1, fun hn => by rw [b.2.2.2.2.1]; exact h.2.2 (by rw [← b.2.2.2.2.2]; exact hn)⟩
theorem m_by (σ : zg_S) (h : IMc σ) : zk (f_X7_laysBy σ) (fun _ s => BY σ s ∧ s 1 = σ 1) :=
  zk_mono (s_X7_laysBy σ h) (fun _ s hp => ⟨⟨hp.1, hp.2.1, congrFun (hp.2.2 1 (by decide)) 1, fun k _ => congrFun (hp.2.2 1 (by decide)) k, hp.2.2 2 (by decide), congrFun (hp.2.2 0 (by decide)) 3⟩, hp.2.2 1 (by decide)⟩)
theorem m_bk (σ s : zg_S) (b : BY σ s) : zk (f_X7_laysBack s) (fun _ t => BY σ t ∧ t 1 = σ 1) := by
  refine zk_mono (s_X7_laysBack s b.1) (fun _ t hp => ?_)
  obtain ⟨ht, h1, h2, h3⟩ := hp
  have e : t 1 = σ 1 := funext (fun k => by
    by_cases hk : k < 47
    · exact (h1 k hk).trans (b.2.1 k hk)
    · exact (h2 k (by omega)).trans (b.2.2.2.1 k (by omega)))
  exact ⟨⟨ht, fun k hk => by rw [h3 12 (by decide)]; exact b.2.1 k hk, congrFun e 1, fun k _ => congrFun e k, (h3 2 (by decide)).trans b.2.2.2.2.1, (congrFun (h3 0 (by decide)) 3).trans b.2.2.2.2.2⟩, e⟩
theorem m_many (a : Int32) (σ s : zg_S) (h : IM σ) (b : BY σ s) (ha : a.toInt ≤ 100) : zk (f_X7_goesOnMany a s) (fun _ t => BY σ t) :=
  zk_mono (s_X7_goesOnMany a s b.1 (b.wf h.2.1) ha) (fun _ t hp => b.go hp.1 hp.2)
theorem m_goBy (a : Int32) (σ s : zg_S) (h : IM σ) (b : BY σ s) : zk (f_X7_goesOnBy a s) (fun _ t => BY σ t) :=
  zk_mono (s_X7_goesOnBy a s b.1 (b.wf h.2.1)) (fun _ t hp => b.go hp.1 hp.2)
theorem BY.up {σ s : zg_S} {i : Nat} {v : Int32} (b : BY σ s) (h2 : 2 ≤ i) (h3 : i < 47) : BY σ (zg_up s 1 i v) := b.go (IMc.up b.1 (zTs v) (mcon1 h2)) (hi.up1 hi.rf h2 h3)
theorem m_behind (a1 a2 : Int32) (σ : zg_S) (h : IM σ) : zk (f_X7_behind a1 a2 σ) (fun _ s => IM s) := by
  have e100 := zt_100
  unfold f_X7_behind
  refine zk_call (m_isIn a1 0 100 σ h.1) (fun r s hp => ?_)
  obtain ⟨rfl, hr⟩ := hp
  refine zk_ite (fun _ => zk_some h) (fun hn => ?_)
  obtain ⟨-, -, h2⟩ := hr.resolve_left hn
  refine zk_call (m_isIn a2 0 3 σ h.1) (fun r2 s2 hp => ?_)
  obtain ⟨rfl, hr2⟩ := hp
  refine zk_ite (fun _ => zk_some h) (fun _ => ?_)
  refine zk_call (m_by σ h.1) (fun _ s3 hp => ?_)
  refine zk_call (m_many a1 σ s3 h hp.1 (by omega)) (fun _ s4 b4 => ?_)
  have e : ∀ y, zk (B_X7_behind_84 a1 a2 y s4) (fun _ s => IM s) := fun y => by
    unfold B_X7_behind_84
    exact zk_call (m_bk σ s4 b4) (fun _ s5 hp => zk_some (BY.done h hp.1 hp.2))
  exact zk_ite (fun _ => e _) (fun _ => zk_ite (fun _ => e _) (fun _ => zk_ite (fun _ => e _) (fun _ => e _)))
theorem m_goods (a1 a2 : Int32) (σ : zg_S) (h : IM σ) : zk (f_X7_goods a1 a2 σ) (fun _ s => IM s) := by
  have e100 := zt_100
  have e0 := zt_0
  have e2 := zt_2
  have f0 : 0 ≤ (σ 1 0).toInt ∧ (σ 1 0).toInt ≤ 9 := h.1 1 0
  unfold f_X7_goods
  refine zk_call (s_X7_isStall a1 σ h.1) (fun r s hp => ?_)
  obtain ⟨rfl, hr⟩ := hp
  refine zk_ite (fun _ => zk_some h) (fun hn => ?_)
  obtain ⟨-, g1, g2⟩ := hr.resolve_left hn
  refine zk_call (m_isIn a2 0 100 σ h.1) (fun r s hp => ?_)
  obtain ⟨rfl, hr⟩ := hp
  refine zk_ite (fun _ => zk_some h) (fun hn => ?_)
  obtain ⟨-, -, h2⟩ := hr.resolve_left hn
  refine zk_call (m_by σ h.1) (fun _ s3 hp => ?_)
  refine zk_call (m_many a2 σ s3 h hp.1 (by omega)) (fun _ s4 b4 => ?_)
  refine zk_call (s_X7_of a1 2 s4 b4.1 g1 (by omega) (by omega) (by omega)) (fun _ s5 hp => ?_)
  subst hp
  exact zk_call (m_bk σ s4 b4) (fun _ s5 hp => zk_some (BY.done h hp.1 hp.2))
theorem m_wider (a1 a2 : Int32) (σ : zg_S) (h : IM σ) : zk (f_X7_wider a1 a2 σ) (fun _ s => IM s) := by
  have e60 := zt_60
  have e1 := zt_1
  have em := zt_m1
  have e6 := zt_6
  unfold f_X7_wider
  refine zk_call (m_isIn a1 0 9999 σ h.1) (fun r s hp => ?_)
  obtain ⟨rfl, hr⟩ := hp
  refine zk_ite (fun _ => zk_some h) (fun hn => ?_)
  refine zk_call (m_isIn a2 1 60 σ h.1) (fun r s hp => ?_)
  obtain ⟨rfl, hr2⟩ := hp
  refine zk_ite (fun _ => zk_some h) (fun hn => ?_)
  obtain ⟨-, -, h2⟩ := hr2.resolve_left hn
  refine zk_call (m_by σ h.1) (fun _ s3 hp => ?_)
  unfold L_X7_wider_37
  refine zl_II (fun (_ x4 : Int32) (s : zg_S) => BY σ s ∧ s 1 = σ 1 ∧ 0 ≤ x4.toInt ∧ x4.toInt ≤ 6) (fun (_ x4 : Int32) (_ : zg_S) => x4.toInt.toNat) ?_ zfu _ _ _ ⟨hp.1, hp.2, by omega, by omega⟩ (by unfold zfu; omega)
  intro rec x3 x4 s hI ih
  obtain ⟨b, e, i1, i2⟩ := hI
  unfold B_X7_wider_37
  refine zk_ite (fun _ => ?_) (fun hl => ?_)
  · refine zk_call (s_X7_orNone x3 s b.1) (fun _ t hp => ?_)
    subst hp
    exact zk_some (BY.done h b e)
  · have g := znlt hl
    refine zk_let (fun t q => ?_)
    have bt : BY σ t := by rw [q]; exact b.up (by decide) (by decide)
    refine zk_call (s_X7_holds t bt.1) (fun _ t2 hp => ?_)
    refine zk_call (m_many a2 σ t2 h (bt.go hp.1 hp.2) (by omega)) (fun _ t3 b3 => ?_)
    have ex := zTe (zTadd (zTs x4) (zTl zt_m1) (by omega) (by omega))
    have ee : ∀ y, zk (B_X7_wider_77 a1 a2 rec x4 y t3) (fun _ s => IM s) := fun y => by
      unfold B_X7_wider_77
      refine zk_call (m_bk σ t3 b3) (fun _ s5 hp => ?_)
      exact ih y (x4 + (-1)) s5 ⟨hp.1, hp.2, by rw [ex]; omega, by rw [ex]; omega⟩ (by show (x4 + (-1)).toInt.toNat < x4.toInt.toNat; rw [ex]; omega)
    exact zk_ite (fun _ => ee _) (fun _ => ee _)
theorem m_shaded (a1 a2 : Int32) (σ : zg_S) (h : IM σ) : zk (f_X7_shaded a1 a2 σ) (fun _ s => IM s) := by
  have e60 := zt_60
  have e1 := zt_1
  have e0 := zt_0
  have f0 : 0 ≤ (σ 1 0).toInt ∧ (σ 1 0).toInt ≤ 9 := h.1 1 0
  unfold f_X7_shaded
  refine zk_call (s_X7_isStall a1 σ h.1) (fun r s hp => ?_)
  obtain ⟨rfl, hr⟩ := hp
  refine zk_ite (fun _ => zk_some h) (fun hn => ?_)
  obtain ⟨-, g1, g2⟩ := hr.resolve_left hn
  refine zk_call (m_isIn a2 1 60 σ h.1) (fun r s hp => ?_)
  obtain ⟨rfl, hr2⟩ := hp
  refine zk_ite (fun _ => zk_some h) (fun hn => ?_)
  obtain ⟨-, -, h2⟩ := hr2.resolve_left hn
  refine zk_call (m_by σ h.1) (fun _ s3 hp => ?_)
  unfold L_X7_shaded_32
  refine zl_II (fun (_ x4 : Int32) (s : zg_S) => BY σ s ∧ 0 ≤ x4.toInt ∧ x4.toInt ≤ 60) (fun (_ x4 : Int32) (_ : zg_S) => (60 - x4.toInt).toNat) ?_ zfu _ _ _ ⟨hp.1, by omega, by omega⟩ (by unfold zfu; omega)
  intro rec x3 x4 s hI ih
  obtain ⟨b, i1, i2⟩ := hI
  unfold B_X7_shaded_32
  refine zk_ite (fun _ => zk_call (m_bk σ s b) (fun _ s5 hp => zk_some (BY.done h hp.1 hp.2))) (fun hl => ?_)
  have g := znle hl
  refine zk_call (s_X7_hauls s b.1 (b.wf h.2.1)) (fun r30 t hp => ?_)
  have b1 := b.go hp.1 hp.2
  refine zk_let (fun t2 q2 => ?_)
  have b2 : BY σ t2 := by rw [q2]; exact b1.up (by decide) (by decide)
  refine zk_call (s_X7_holds t2 b2.1) (fun _ t3 hp => ?_)
  have b3 := b2.go hp.1 hp.2
  refine zk_call (s_X7_isShaded a1 t3 b3.1 g1 (by omega)) (fun _ t4 hp => ?_)
  obtain ⟨rfl, _⟩ := hp
  have ex := zTe (zTadd (zTs x4) (zTl zt_1) (by omega) (by omega))
  have ee : ∀ y, zk (B_X7_shaded_83 a1 a2 rec x4 (s 1 7) r30 y x3 t3) (fun _ s => IM s) := fun y => by
    unfold B_X7_shaded_83
    refine zk_let (fun t5 q5 => ?_)
    have b5 : BY σ t5 := by rw [q5]; exact b3.up (by decide) (by decide)
    refine zk_call (m_goBy r30 σ t5 h b5) (fun _ t6 b6 => ?_)
    exact ih _ (x4 + 1) t6 ⟨b6, by rw [ex]; omega, by rw [ex]; omega⟩ (by show (60 - (x4 + 1).toInt).toNat < (60 - x4.toInt).toNat; rw [ex]; omega)
  exact zk_ite (fun _ => ee _) (fun _ => ee _)
theorem m_without (a1 a2 : Int32) (σ : zg_S) (h : IM σ) : zk (f_X7_without a1 a2 σ) (fun _ s => IM s) := by
  have e60 := zt_60
  have e1 := zt_1
  have e0 := zt_0
  have e3 := zt_3
  have f0 : 0 ≤ (σ 1 0).toInt ∧ (σ 1 0).toInt ≤ 9 := h.1 1 0
  unfold f_X7_without
  refine zk_call (m_isIn a1 1 60 σ h.1) (fun r s hp => ?_)
  obtain ⟨rfl, hr2⟩ := hp
  refine zk_ite (fun _ => zk_some h) (fun hn => ?_)
  obtain ⟨-, -, h2⟩ := hr2.resolve_left hn
  refine zk_call (m_isIn a2 0 1 σ h.1) (fun r s hp => ?_)
  obtain ⟨rfl, hr⟩ := hp
  refine zk_ite (fun _ => zk_some h) (fun hn => ?_)
  refine zk_call (m_by σ h.1) (fun _ s3 hp => ?_)
  unfold L_X7_without_37
  refine zl_III (fun (_ _ x5 : Int32) (s : zg_S) => BY σ s ∧ s 1 = σ 1 ∧ 0 ≤ x5.toInt ∧ x5.toInt ≤ 9) (fun (_ _ x5 : Int32) (_ : zg_S) => (9 - x5.toInt).toNat) ?_ zfu _ _ _ _ ⟨hp.1, hp.2, by omega, by omega⟩ (by unfold zfu; omega)
  intro rec x3 x4 x5 s hI ih
  obtain ⟨b, e, i1, i2⟩ := hI
  unfold B_X7_without_37
  rw [e]
  have hd := BY.done h b e
  refine zk_ite (fun _ => zk_ite (fun _ => zk_ite (fun _ => zk_some hd) (fun _ => zk_some hd)) (fun _ => zk_some hd)) (fun hl => ?_)
  have g := znle hl
  refine zk_call (s_X7_sets x5 3 0 s b.1 i1 (by omega) (by omega) (by omega)) (fun _ t hp => ?_)
  refine zk_call (m_many a1 σ t h (b.go hp.1 hp.2) (by omega)) (fun _ t2 b2 => ?_)
  refine zk_call (m_bk σ t2 b2) (fun _ t3 hp => ?_)
  have ex := zTe (zTadd (zTs x5) (zTl zt_1) (by omega) (by omega))
  have ee : ∀ y z, zk (B_X7_without_91 a1 a2 rec y z x5 t3) (fun _ s => IM s) := fun y z => by
    unfold B_X7_without_91
    exact ih _ _ (x5 + 1) t3 ⟨hp.1, hp.2, by rw [ex]; omega, by rw [ex]; omega⟩ (by show (9 - (x5 + 1).toInt).toNat < (9 - x5.toInt).toNat; rw [ex]; omega)
  exact zk_ite (fun _ => ee _ _) (fun _ => zk_ite (fun _ => ee _ _) (fun _ => ee _ _))
theorem m_whose (a1 a2 a3 : Int32) (σ : zg_S) (h : IM σ) : zk (f_X7_whose a1 a2 a3 σ) (fun _ s => IM s) := by
  have e60 := zt_60
  have e1 := zt_1
  have e0 := zt_0
  have e2 := zt_2
  have e3 := zt_3
  have e24 := zt_24
  unfold f_X7_whose
  refine zk_call (s_X7_isSheet a1 σ h.1) (fun r s hp => ?_)
  obtain ⟨rfl, hr⟩ := hp
  refine zk_ite (fun _ => zk_some h) (fun hn => ?_)
  obtain ⟨-, g1, g2⟩ := hr.resolve_left hn
  refine zk_call (m_isIn a2 0 60 σ h.1) (fun r s hp => ?_)
  obtain ⟨rfl, hr2⟩ := hp
  refine zk_ite (fun _ => zk_some h) (fun hn => ?_)
  obtain ⟨-, -, h2⟩ := hr2.resolve_left hn
  refine zk_call (m_isIn a3 0 1 σ h.1) (fun r s hp => ?_)
  obtain ⟨rfl, hr3⟩ := hp
  refine zk_ite (fun _ => zk_some h) (fun hn => ?_)
  have z1 : zin a1 4 = true := zin_mk g1 (by omega)
  refine zk_in z1 ?_
  refine zk_ite (fun _ => ?_) (fun _ => zk_some h)
  refine zk_call (m_by σ h.1) (fun _ s3 hp => ?_)
  unfold L_X7_whose_58
  refine zl_III (fun (_ _ x6 : Int32) (s : zg_S) => BY σ s ∧ s 1 = σ 1 ∧ 0 ≤ x6.toInt ∧ x6.toInt ≤ 3) (fun (_ _ x6 : Int32) (_ : zg_S) => (3 - x6.toInt).toNat) ?_ zfu _ _ _ _ ⟨hp.1, hp.2, by omega, by omega⟩ (by unfold zfu; omega)
  intro rec x4 x5 x6 s hI ih
  obtain ⟨b, e, i1, i2⟩ := hI
  unfold B_X7_whose_58
  have hd := BY.done h b e
  refine zk_ite (fun _ => zk_ite (fun _ => zk_some hd) (fun _ => zk_some hd)) (fun hl => ?_)
  have g := znle hl
  have ex := zTe (zTadd (zTs x6) (zTl zt_1) (by omega) (by omega))
  refine zk_let (fun t q => ?_)
  have bt : BY σ t := by rw [q]; exact b.up (by decide) (by decide)
  refine zk_call (m_many a2 σ t h bt (by omega)) (fun _ t2 b2 => ?_)
  unfold L_X7_whose_84
  refine zl_IIIII (fun (_ _ y6 _ x8 : Int32) (s : zg_S) => BY σ s ∧ y6 = x6 ∧ 0 ≤ x8.toInt ∧ x8.toInt ≤ 24) (fun (_ _ _ _ x8 : Int32) (_ : zg_S) => (24 - x8.toInt).toNat) ?_ zfu _ _ _ _ _ _ ⟨b2, rfl, by omega, by omega⟩ (by unfold zfu; omega)
  intro rec2 y4 y5 y6 x7 x8 u hI ih2
  obtain ⟨bu, rfl, j1, j2⟩ := hI
  have f5 : 0 ≤ (u 5 (Int32.toNatClampNeg a1)).toInt ∧ (u 5 (Int32.toNatClampNeg a1)).toInt ≤ 24 := bu.1 5 _
  have f0 : 0 ≤ (u 1 0).toInt ∧ (u 1 0).toInt ≤ 9 := bu.1 1 0
  unfold B_X7_whose_84
  refine zk_in z1 ?_
  refine zk_ite (fun _ => ?_) (fun h8 => ?_)
  · refine zk_call (m_bk σ u bu) (fun _ t3 hp => ?_)
    have ee : ∀ y z, zk (B_X7_whose_182 a1 a2 a3 rec y z y6 t3) (fun _ s => IM s) := fun y z => by
      unfold B_X7_whose_182
      exact ih _ _ (y6 + 1) t3 ⟨hp.1, hp.2, by rw [ex]; omega, by rw [ex]; omega⟩ (by show (3 - (y6 + 1).toInt).toNat < (3 - y6.toInt).toNat; rw [ex]; omega)
    exact zk_ite (fun _ => ee _ _) (fun _ => zk_ite (fun _ => ee _ _) (fun _ => ee _ _))
  · have g8 := znle h8
    refine zk_in (zin_mkT (zTadd (zTmul (zTl zt_24) (zTs a1) (by omega) (by omega)) (zTs x8) (by omega) (by omega)) (by omega) (by omega)) ?_
    refine zk_let (fun v _ => ?_)
    have ex8 := zTe (zTadd (zTs x8) (zTl zt_1) (by omega) (by omega))
    have e9 : ∀ y z, zk (B_X7_whose_149 a1 a2 a3 rec2 y4 y5 y6 x8 y z u) (fun _ s => IM s) := fun y z => by
      unfold B_X7_whose_149
      exact ih2 _ _ y6 _ (x8 + 1) u ⟨bu, rfl, by rw [ex8]; omega, by rw [ex8]; omega⟩ (by show (24 - (x8 + 1).toInt).toNat < (24 - x8.toInt).toNat; rw [ex8]; omega)
    have e6 : ∀ y z w, zk (B_X7_whose_146 a1 a2 a3 rec2 y4 y5 y6 x8 y z w u) (fun _ s => IM s) := fun y z w => by
      unfold B_X7_whose_146
      refine zk_call (s_X7_off z y u bu.1) (fun _ t hp => ?_)
      subst hp
      exact e9 _ _
    refine zk_ite (fun _ => e9 _ _) (fun _ => zk_ite (fun _ => e6 _ _ _) (fun hk => ?_))
    have gk := znle hk
    refine zk_call (s_X7_of x8 2 u bu.1 j1 (by omega) (by omega) (by omega)) (fun _ t hp => ?_)
    subst hp
    exact e6 _ _ _
/-- 3 to the power of the count of digits, less one -/
def hgh (x4 x3 : Int32) : Prop := (x4 = 1 ∧ x3 = 1) ∨ (x4 = 2 ∧ x3 = 3) ∨ (x4 = 3 ∧ x3 = 9) ∨ (x4 = 4 ∧ x3 = 27) ∨ (x4 = 5 ∧ x3 = 81)
theorem hgh.lo {x4 x3 : Int32} (h : hgh x4 x3) : 1 ≤ x3.toInt ∧ x3.toInt ≤ 81 ∧ 1 ≤ x4.toInt ∧ x4.toInt ≤ 5 := by
  rcases h with ⟨rfl, rfl⟩ | ⟨rfl, rfl⟩ | ⟨rfl, rfl⟩ | ⟨rfl, rfl⟩ | ⟨rfl, rfl⟩ <;> decide
theorem hgh.go {x4 x3 : Int32} (h : hgh x4 x3) (h4 : x4.toInt < 5) : hgh (x4 + 1) (x3 * 3) := by
  rcases h with ⟨rfl, rfl⟩ | ⟨rfl, rfl⟩ | ⟨rfl, rfl⟩ | ⟨rfl, rfl⟩ | ⟨rfl, rfl⟩
  · exact Or.inr (Or.inl ⟨by decide, by decide⟩)
  · exact Or.inr (Or.inr (Or.inl ⟨by decide, by decide⟩))
  · exact Or.inr (Or.inr (Or.inr (Or.inl ⟨by decide, by decide⟩)))
  · exact Or.inr (Or.inr (Or.inr (Or.inr ⟨by decide, by decide⟩)))
  · exact absurd h4 (by decide)
theorem zdiv3 (x : Int32) (h : 0 < x.toInt) : (x / 3).toInt < x.toInt := by
  have e3 : (3 : Int32).toInt = 3 := by decide
  rw [Int32.toInt_div, e3]
  have hb : x.toInt < 2147483648 := Int32.toInt_lt x
  have e : x.toInt.tdiv 3 = x.toInt / 3 := Int.tdiv_eq_ediv_of_nonneg (by omega)
  rw [e, Int.bmod_eq_of_le (by omega) (by omega)]
  omega
theorem m_best (a1 a2 : Int32) (σ : zg_S) (h : IM σ) : zk (f_X7_best a1 a2 σ) (fun _ s => IM s) := by
  have e5 := zt_5
  have e1 := zt_1
  have e0 := zt_0
  have e3 := zt_3
  unfold f_X7_best
  refine zk_call (m_isIn a1 1 5 σ h.1) (fun r s hp => ?_)
  obtain ⟨rfl, hr⟩ := hp
  refine zk_ite (fun _ => zk_some h) (fun hn => ?_)
  obtain ⟨-, g1, g2⟩ := hr.resolve_left hn
  refine zk_call (m_isIn a2 0 1 σ h.1) (fun r s hp => ?_)
  obtain ⟨rfl, hr2⟩ := hp
  refine zk_ite (fun _ => zk_some h) (fun hn => ?_)
  unfold L_X7_best_30
  refine zl_II (fun (x3 x4 : Int32) (s : zg_S) => s = σ ∧ hgh x4 x3) (fun (_ x4 : Int32) (_ : zg_S) => (5 - x4.toInt).toNat) ?_ zfu _ _ _ ⟨rfl, Or.inl ⟨rfl, rfl⟩⟩ (by unfold zfu; omega)
  intro rec x3 x4 s hI ih
  obtain ⟨rfl, hg⟩ := hI
  obtain ⟨q1, q2, q3, q4⟩ := hg.lo
  unfold B_X7_best_30
  refine zk_ite (fun _ => ?_) (fun hl => ?_)
  · refine zk_call (m_by s h.1) (fun _ s3 hp => ?_)
    unfold L_X7_best_59
    have e3x := zTe (zTmul (zTl zt_3) (zTs x3) (by omega) (by omega))
    refine zl_IIII (fun (y3 _ _ x6 : Int32) (t : zg_S) => BY s t ∧ t 1 = s 1 ∧ y3 = x3 ∧ 0 ≤ x6.toInt ∧ x6.toInt ≤ 243) (fun (_ _ _ x6 : Int32) (_ : zg_S) => (243 - x6.toInt).toNat) ?_ zfu _ _ _ _ _ ⟨hp.1, hp.2, rfl, by omega, by omega⟩ (by unfold zfu; omega)
    intro rec2 y3 y4 y5 x6 t hI ih2
    obtain ⟨b, e, rfl, i1, i2⟩ := hI
    unfold B_X7_best_59
    have hd := BY.done h b e
    refine zk_ite (fun _ => zk_ite (fun _ => zk_some hd) (fun _ => zk_some hd)) (fun hl => ?_)
    have g := znle hl
    have ex := zTe (zTadd (zTs x6) (zTl zt_1) (by omega) (by omega))
    unfold L_X7_best_70
    refine zl_IIIII (fun (w3 _ _ w6 x7 : Int32) (t : zg_S) => BY s t ∧ w3 = y3 ∧ w6 = x6 ∧ x7.toInt ≤ 81) (fun (_ _ _ _ x7 : Int32) (_ : zg_S) => x7.toInt.toNat) ?_ zfu _ _ _ _ _ _ ⟨b, rfl, rfl, q2⟩ (by unfold zfu; omega)
    intro rec3 w3 w4 w5 w6 x7 u hI ih3
    obtain ⟨bu, rfl, rfl, j2⟩ := hI
    unfold B_X7_best_70
    refine zk_ite (fun _ => ?_) (fun h7 => ?_)
    · refine zk_call (m_bk s u bu) (fun _ t3 hp => ?_)
      have ee : ∀ y z, zk (B_X7_best_149 a1 a2 rec2 w3 y z w6 t3) (fun _ s => IM s) := fun y z => by
        unfold B_X7_best_149
        exact ih2 _ _ _ (w6 + 1) t3 ⟨hp.1, hp.2, rfl, by rw [ex]; omega, by rw [ex]; omega⟩ (by show (243 - (w6 + 1).toInt).toNat < (243 - w6.toInt).toNat; rw [ex]; omega)
      have e1 : ∀ z, zk (B_X7_best_141 a1 a2 rec2 w3 w6 z t3) (fun _ s => IM s) := fun z => by
        unfold B_X7_best_141
        exact ee _ _
      exact zk_ite (fun _ => e1 _) (fun _ => zk_ite (fun _ => ee _ _) (fun _ => e1 _))
    · have g7 := znle h7
      have hd3 := zdiv3 x7 (by omega)
      refine zk_nz (fun z => by have := zeq z; omega) ?_
      refine zk_let (fun y _ => ?_)
      have ee : ∀ z, zk (B_X7_best_105 a1 a2 rec3 w3 w4 w5 w6 x7 z u) (fun _ s => IM s) := fun z => by
        unfold B_X7_best_105
        refine zk_call (m_goBy z s u h bu) (fun _ t6 b6 => ?_)
        exact ih3 _ _ _ _ (x7 / 3) t6 ⟨b6, rfl, rfl, by omega⟩ (by show (x7 / 3).toInt.toNat < x7.toInt.toNat; omega)
      exact zk_ite (fun _ => ee _) (fun _ => zk_ite (fun _ => ee _) (fun _ => ee _))
  · have g := znle hl
    have ex := zTe (zTadd (zTs x4) (zTl zt_1) (by omega) (by omega))
    exact ih (x3 * 3) (x4 + 1) s ⟨rfl, hg.go (by omega)⟩ (by show (5 - (x4 + 1).toInt).toNat < (5 - x4.toInt).toNat; rw [ex]; omega)
theorem m_check (a1 : Int32) (σ : zg_S) (h : IM σ) : zk (f_X7_check a1 σ) (fun _ s => IM s) := by
  have e30 := zt_30
  have e1 := zt_1
  have e0 := zt_0
  have e2 := zt_2
  have f29 : 0 ≤ (σ 0 29).toInt ∧ (σ 0 29).toInt ≤ 60 := h.1 0 29
  unfold f_X7_check
  refine zk_let (fun s0 q0 => ?_)
  have h0 : IM s0 := by rw [q0]; exact h.hi (IMc.up h.1 (zTl zt_0) ⟨by omega, by omega⟩) (hi.up0 hi.rf rfl)
  refine zk_call (m_isIn a1 1 30 s0 h0.1) (fun r s hp => ?_)
  obtain ⟨rfl, hr⟩ := hp
  refine zk_ite (fun _ => zk_some h0) (fun hn => ?_)
  obtain ⟨-, g1, g2⟩ := hr.resolve_left hn
  refine zk_ite (fun _ => zk_some h0) (fun hi3 => ?_)
  have w2 := h0.2.2 hi3
  refine zk_call (s_X7_setAside 1 3 s0 h0.1 (by decide) (by decide) (by decide) mc_1_3) (fun _ s1 hp => ?_)
  obtain ⟨h1, a1a, a1b, a1c⟩ := hp
  refine zk_call (s_X7_setAside 2 1 s1 h1 (by decide) (by decide) (by decide) mc_2_1) (fun _ s2 hp => ?_)
  obtain ⟨h2, a2a, a2b, a2c⟩ := hp
  have r12 : s1 2 = s0 2 := a1c 2 (by decide)
  have w21 : WF (s2 1) := WF_eq2 (h0.1 2 1).2 (fun i hi => (a2a i hi).trans (congrFun r12 i)) w2
  have k3 : ∀ k, k < 2847 → s2 3 k = s0 1 k := fun k hk => (congrFun (a2c 3 (by decide)) k).trans (a1a k hk)
  have k2 : s2 2 = s0 2 := (a2c 2 (by decide)).trans r12
  have k0 : s2 0 = s0 0 := (a2c 0 (by decide)).trans (a1c 0 (by decide))
  unfold L_X7_check_65
  refine zl_III (fun (x2 x3 x4 : Int32) (s : zg_S) => IMc s ∧ hi s2 s ∧ x2 = σ 0 29 ∧ x3.toInt = 2 * x4.toInt ∧ 0 ≤ x4.toInt ∧ x4.toInt ≤ 30) (fun (_ _ x4 : Int32) (_ : zg_S) => (30 - x4.toInt).toNat) ?_ zfu _ _ _ _ ⟨h2, hi.rf, rfl, by omega, by omega, by omega⟩ (by unfold zfu; omega)
  intro rec x2 x3 x4 s hI ih
  obtain ⟨hs, hh, rfl, i0, i1, i2⟩ := hI
  unfold B_X7_check_65
  have ee : zk (B_X7_check_123 a1 (σ 0 29) x3 s) (fun _ s => IM s) := by
    unfold B_X7_check_123
    refine zk_call (s_X7_setAside 3 1 s hs (by decide) (by decide) (by decide) mc_3_1) (fun _ t hp => ?_)
    obtain ⟨ht, b1, b2, b3⟩ := hp
    have hM : IM t := by
      refine ⟨ht, WF_eq2 (h0.1 1 1).2 (fun i hi => (b1 i hi).trans ((congrFun hh.2.2.2.1 i).trans (k3 i hi))) h0.2.1, fun _ => ?_⟩
      rw [b3 2 (by decide), hh.2.2.1, k2]
      exact w2
    unfold L_X7_check_138
    refine zl_III (fun (y2 _ x4 : Int32) (u : zg_S) => u = t ∧ y2 = σ 0 29 ∧ 0 ≤ x4.toInt ∧ x4.toInt ≤ 60) (fun (_ _ x4 : Int32) (_ : zg_S) => (60 - x4.toInt).toNat) ?_ zfu _ _ _ _ ⟨rfl, rfl, by omega, by omega⟩ (by unfold zfu; omega)
    intro rec2 y2 y3 y4 u hI ih2
    obtain ⟨rfl, rfl, j1, j2⟩ := hI
    have e7 : zk (B_X7_check_173 a1 (σ 0 29) y3 y4 u) (fun _ s => IM s) := by
      unfold B_X7_check_173 B_X7_check_189
      exact zk_ite (fun _ => zk_ite (fun _ => zk_some hM) (fun _ => zk_some hM)) (fun _ => zk_some hM)
    unfold B_X7_check_138
    refine zk_ite (fun _ => e7) (fun hl => ?_)
    have g := znle hl
    refine zk_ite (fun _ => e7) (fun _ => ?_)
    refine zk_in (zin_mk j1 (by omega)) ?_
    refine zk_ite (fun _ => ?_) (fun _ => e7)
    have ex := zTe (zTadd (zTs y4) (zTl zt_1) (by omega) (by omega))
    exact ih2 _ _ (y4 + 1) u ⟨rfl, rfl, by rw [ex]; omega, by rw [ex]; omega⟩ (by show (60 - (y4 + 1).toInt).toNat < (60 - y4.toInt).toNat; rw [ex]; omega)
  refine zk_ite (fun _ => ee) (fun hl => zk_ite (fun _ => ee) (fun _ => ?_))
  have g := znle hl
  refine zk_call (s_X7_goesOn s hs (w21.hi hh)) (fun _ t hp => ?_)
  have e3 := zTe (zTadd (zTs x3) (zTl zt_1) (by omega) (by omega))
  have e3' := zTe (zTadd (zTs x3) (zTl zt_2) (by omega) (by omega))
  have ex := zTe (zTadd (zTs x4) (zTl zt_1) (by omega) (by omega))
  refine zk_in (zin_mk (by omega) (by omega)) ?_
  refine zk_let (fun t2 q2 => ?_)
  have p2 : IMc t2 := by rw [q2]; exact IMc.up hp.1 (zTs _) trivial
  have hh2 : hi s2 t2 := by rw [q2]; exact hi.upo (hh.tr hp.2) rfl
  refine zk_in (zin_mk (by rw [e3]; omega) (by rw [e3]; omega)) ?_
  refine zk_let (fun t3 q3 => ?_)
  have p3 : IMc t3 := by rw [q3]; exact IMc.up p2 (zTs _) trivial
  have hh3 : hi s2 t3 := by rw [q3]; exact hi.upo hh2 rfl
  exact ih _ (x3 + 2) (x4 + 1) t3 ⟨p3, hh3, rfl, by rw [e3', ex]; omega, by rw [ex]; omega, by rw [ex]; omega⟩ (by show (30 - (x4 + 1).toInt).toNat < (30 - x4.toInt).toNat; rw [ex]; omega)
end
section
theorem m_copy (a1 a2 a3 a4 a5 : Int32) (σ : zg_S) (h : IM σ) : zk (f_X7_copy a1 a2 a3 a4 a5 σ) (fun _ s => IM s) := by
  have e0 := zt_0
  have e1 := zt_1
  have e24 := zt_24
  unfold f_X7_copy
  refine zk_call (s_X7_isSheet a1 σ h.1) (fun r s hp => ?_)
  obtain ⟨rfl, hr⟩ := hp
  refine zk_ite (fun _ => zk_some h) (fun hn => ?_)
  obtain ⟨-, g1, g2⟩ := hr.resolve_left hn
  refine zk_call (s_X7_isSheet a3 σ h.1) (fun r s hp => ?_)
  obtain ⟨rfl, hr2⟩ := hp
  refine zk_ite (fun _ => zk_some h) (fun hn => ?_)
  obtain ⟨-, g3, g4⟩ := hr2.resolve_left hn
  refine zk_in (zin_mk g1 (by omega)) ?_
  refine zk_ite (fun _ => zk_some h) (fun _ => ?_)
  refine zk_in (zin_mk g3 (by omega)) ?_
  refine zk_ite (fun _ => ?_) (fun _ => zk_some h)
  refine zk_ite (fun _ => ?_) (fun _ => zk_some h)
  refine zk_ite (fun _ => zk_some h) (fun n2 => ?_)
  refine zk_ite (fun _ => zk_some h) (fun n4 => ?_)
  refine zk_ite (fun _ => zk_some h) (fun n5 => ?_)
  refine zk_ite (fun _ => zk_some h) (fun c1 => ?_)
  refine zk_ite (fun c2 => ?_) (fun _ => zk_some h)
  have n2 := znlt n2
  have n4 := znlt n4
  have n5 := znlt n5
  have k1 := zl_big (by omega) (by omega) c1
  have k2 := zl_big (a := a4) (b := a5) (c := σ 5 (Int32.toNatClampNeg a3)) (by omega) (by omega) (fun z => by have := zlt z; have := zle c2; omega)
  have f1 : 0 ≤ (σ 5 (Int32.toNatClampNeg a1)).toInt ∧ (σ 5 (Int32.toNatClampNeg a1)).toInt ≤ 24 := h.1 5 _
  have f3 : 0 ≤ (σ 5 (Int32.toNatClampNeg a3)).toInt ∧ (σ 5 (Int32.toNatClampNeg a3)).toInt ≤ 24 := h.1 5 _
  unfold L_X7_copy_113
  refine zl_I (fun (x : Int32) (s : zg_S) => IM s ∧ 0 ≤ x.toInt ∧ x.toInt ≤ 24) (fun (x : Int32) (_ : zg_S) => (24 - x.toInt).toNat) ?_ zfu _ _ ⟨h, by omega, by omega⟩ (by unfold zfu; omega)
  intro rec x s hI ih
  obtain ⟨hs, i1, i2⟩ := hI
  unfold B_X7_copy_113
  refine zk_ite (fun _ => ?_) (fun hl => ?_)
  · unfold L_X7_copy_150
    refine zl_I (fun (x : Int32) (s : zg_S) => IM s ∧ 0 ≤ x.toInt ∧ x.toInt ≤ 24) (fun (x : Int32) (_ : zg_S) => (24 - x.toInt).toNat) ?_ zfu _ _ ⟨hs, by omega, by omega⟩ (by unfold zfu; omega)
    intro rec2 y t hI ih2
    obtain ⟨ht, j1, j2⟩ := hI
    unfold B_X7_copy_150
    refine zk_ite (fun _ => zk_some ht) (fun hl => ?_)
    have g := znle hl
    refine zk_in (zin_mk j1 (by omega)) ?_
    refine zk_let (fun v _ => ?_)
    refine zk_in (zin_mkT (zTadd (zTadd (zTmul (zTl zt_24) (zTs a3) (by omega) (by omega)) (zTs a4) (by omega) (by omega)) (zTs y) (by omega) (by omega)) (by omega) (by omega)) ?_
    refine zk_let (fun u q => ?_)
    have ex := zTe (zTadd (zTs y) (zTl zt_1) (by omega) (by omega))
    exact ih2 (y + 1) u ⟨by rw [q]; exact ht.hi (IMc.up ht.1 (zTs _) trivial) (hi.upo hi.rf rfl), by rw [ex]; omega, by rw [ex]; omega⟩ (by show (24 - (y + 1).toInt).toNat < (24 - y.toInt).toNat; rw [ex]; omega)
  · have g := znle hl
    refine zk_in (zin_mkT (zTadd (zTadd (zTmul (zTl zt_24) (zTs a1) (by omega) (by omega)) (zTs a2) (by omega) (by omega)) (zTs x) (by omega) (by omega)) (by omega) (by omega)) ?_
    refine zk_let (fun v _ => ?_)
    refine zk_in (zin_mk i1 (by omega)) ?_
    refine zk_let (fun u q => ?_)
    have ex := zTe (zTadd (zTs x) (zTl zt_1) (by omega) (by omega))
    exact ih (x + 1) u ⟨by rw [q]; exact hs.hi (IMc.up hs.1 (zTs _) trivial) (hi.upo hi.rf rfl), by rw [ex]; omega, by rw [ex]; omega⟩ (by show (24 - (x + 1).toInt).toNat < (24 - x.toInt).toNat; rw [ex]; omega)
/-! lay -/
theorem ly150 (a1 a2 a3 x5 x6 : Int32) (σ : zg_S) (h : IM σ) (g1 : 0 ≤ a1.toInt) (g2 : a1.toInt ≤ 4) (g3 : 0 ≤ a3.toInt) (g4 : a3.toInt ≤ 3) (h6 : x6 = 0) : zk (L_X7_lay_150 a1 a2 a3 zfu x5 x6 σ) (fun _ s => IM s) := by
  have e0 := zt_0
  have e1 := zt_1
  have e24 := zt_24
  subst h6
  unfold L_X7_lay_150
  refine zl_II (fun (_ x : Int32) (s : zg_S) => IM s ∧ 0 ≤ x.toInt ∧ x.toInt ≤ 24) (fun (_ x : Int32) (_ : zg_S) => (24 - x.toInt).toNat) ?_ zfu _ _ _ ⟨h, by omega, by omega⟩ (by unfold zfu; omega)
  intro rec y x s hI ih
  obtain ⟨hs, i1, i2⟩ := hI
  unfold B_X7_lay_150
  refine zk_ite (fun _ => zk_some hs) (fun hl => ?_)
  have g := znle hl
  refine zk_in (zin_mkT (zTadd (zTmul (zTl zt_24) (zTs a3) (by omega) (by omega)) (zTs x) (by omega) (by omega)) (by omega) (by omega)) ?_
  refine zk_let (fun v _ => ?_)
  refine zk_in (zin_mkT (zTadd (zTmul (zTl zt_24) (zTs a1) (by omega) (by omega)) (zTs x) (by omega) (by omega)) (by omega) (by omega)) ?_
  refine zk_let (fun u q => ?_)
  have ex := zTe (zTadd (zTs x) (zTl zt_1) (by omega) (by omega))
  exact ih y (x + 1) u ⟨by rw [q]; exact hs.hi (IMc.up hs.1 (zTs _) trivial) (hi.upo hi.rf rfl), by rw [ex]; omega, by rw [ex]; omega⟩ (by show (24 - (x + 1).toInt).toNat < (24 - x.toInt).toNat; rw [ex]; omega)
theorem ly129 (a1 a2 a3 x5 y0 : Int32) (σ : zg_S) (h : IM σ) (g1 : 0 ≤ a1.toInt) (g2 : a1.toInt ≤ 4) (hC : a2 = 2 → 0 ≤ a3.toInt ∧ a3.toInt ≤ 3) : zk (B_X7_lay_129 a1 a2 a3 x5 y0 a1 σ) (fun _ s => IM s) := by
  unfold B_X7_lay_129
  refine zk_in (zin_mk g1 (by omega)) ?_
  refine zk_let (fun s q => ?_)
  have hs : IM s := by rw [q]; exact h.hi (IMc.up h.1 (zTs _) trivial) (hi.upo hi.rf rfl)
  refine zk_ite (fun h2 => ?_) (fun _ => zk_some hs)
  obtain ⟨g3, g4⟩ := hC h2
  refine zk_in (zin_mk g3 (by omega)) ?_
  refine zk_let (fun v ev => ?_)
  have f5 : 0 ≤ v.toInt ∧ v.toInt ≤ 24 := by rw [ev]; exact hs.1 5 _
  refine zk_in (zin_mk g1 (by omega)) ?_
  refine zk_let (fun t q => ?_)
  have ht : IM t := by rw [q]; exact hs.hi (IMc.up hs.1 (zTs _) f5) (hi.upo hi.rf rfl)
  exact ly150 a1 a2 a3 x5 0 t ht g1 g2 g3 g4 rfl
theorem ly109 (a1 a2 a3 x5 y0 : Int32) (σ : zg_S) (h : IM σ) (g1 : 0 ≤ a1.toInt) (g2 : a1.toInt ≤ 4) (hC : a2 = 2 → 0 ≤ a3.toInt ∧ a3.toInt ≤ 3) (hD : a2 = 1 → 0 ≤ a3.toInt ∧ a3.toInt ≤ 8) : zk (B_X7_lay_109 a1 a2 a3 x5 y0 a1 σ) (fun _ s => IM s) := by
  unfold B_X7_lay_109
  refine zk_in (zin_mk g1 (by omega)) ?_
  refine zk_let (fun s q => ?_)
  have hs : IM s := by rw [q]; exact h.hi (IMc.up h.1 (zTs _) trivial) (hi.upo hi.rf rfl)
  refine zk_ite (fun h2 => ?_) (fun _ => ly129 a1 a2 a3 x5 0 s hs g1 g2 hC)
  refine zk_call (s_X7_worth a3 s hs.1 (hD h2).1 (hD h2).2) (fun r t hp => ?_)
  subst hp
  exact ly129 a1 a2 a3 x5 r s hs g1 g2 hC
theorem ly74 (a1 a2 a3 : Int32) (σ : zg_S) (h : IM σ) (g1 : 0 ≤ a1.toInt) (g2 : a1.toInt ≤ 4) (hC : a2 = 2 → 0 ≤ a3.toInt ∧ a3.toInt ≤ 3) (hD : a2 = 1 → 0 ≤ a3.toInt ∧ a3.toInt ≤ 8) : zk (B_X7_lay_74 a1 a2 a3 σ) (fun _ s => IM s) := by
  have e0 := zt_0
  unfold B_X7_lay_74
  refine zk_in (zin_mk g1 (by omega)) ?_
  refine zk_let (fun s q => ?_)
  have hs : IM s := by rw [q]; exact h.hi (IMc.up h.1 (zTs _) trivial) (hi.upo hi.rf rfl)
  refine zk_ite (fun h2 => ?_) (fun _ => ly109 a1 a2 a3 _ a3 s hs g1 g2 hC hD)
  refine zk_call (s_X7_of a3 0 s hs.1 (hD h2).1 (hD h2).2 (by omega) (by omega)) (fun r t hp => ?_)
  subst hp
  exact ly109 a1 a2 a3 _ r s hs g1 g2 hC hD
theorem ly34 (a1 a2 a3 : Int32) (σ : zg_S) (h : IM σ) (hC : a2 = 2 → 0 ≤ a3.toInt ∧ a3.toInt ≤ 3) (hD : a2 = 1 → 0 ≤ a3.toInt ∧ a3.toInt ≤ 8) : zk (B_X7_lay_34 a1 a2 a3 σ) (fun _ s => IM s) := by
  unfold B_X7_lay_34 B_X7_lay_39
  refine zk_call (s_X7_isSlot a1 σ h.1) (fun r s hp => ?_)
  obtain ⟨rfl, hr⟩ := hp
  refine zk_ite (fun _ => zk_some h) (fun hn => ?_)
  obtain ⟨-, g1, g2⟩ := hr.resolve_left hn
  refine zk_ite (fun _ => zk_some h) (fun _ => ?_)
  refine zk_ite (fun h2 => ?_) (fun _ => ly74 a1 a2 a3 σ h g1 g2 hC hD)
  refine zk_in (zin_mk (hC h2).1 (by have := (hC h2).2; omega)) ?_
  exact zk_ite (fun _ => ly74 a1 a2 a3 σ h g1 g2 hC hD) (fun _ => zk_some h)
theorem ly38 (a1 a2 a3 : Int32) (σ : zg_S) (h : IM σ) : zk (B_X7_lay_38 a1 a2 a3 σ) (fun _ s => IM s) := by
  unfold B_X7_lay_38 B_X7_lay_39
  refine zk_call (s_X7_isSlot a1 σ h.1) (fun r s hp => ?_)
  obtain ⟨rfl, hr⟩ := hp
  refine zk_ite (fun _ => zk_some h) (fun hn => ?_)
  exact zk_ite (fun _ => zk_some h) (fun hn => absurd rfl hn)
theorem ly22 (a1 a2 a3 : Int32) (σ : zg_S) (h : IM σ) : zk (B_X7_lay_22 a1 a2 a3 σ) (fun _ s => IM s) := by
  unfold B_X7_lay_22
  refine zk_ite (fun h2 => ?_) (fun _ => ly38 a1 a2 a3 σ h)
  refine zk_call (s_X7_isSheet a3 σ h.1) (fun r s hp => ?_)
  obtain ⟨rfl, hr⟩ := hp
  refine zk_ite (fun _ => ly38 a1 a2 a3 σ h) (fun hn => ?_)
  exact ly34 a1 a2 a3 σ h (fun _ => (hr.resolve_left hn).2) (fun z => absurd (z.symm.trans h2) (by decide))
theorem m_lay (a1 a2 a3 : Int32) (σ : zg_S) (h : IM σ) : zk (f_X7_lay a1 a2 a3 σ) (fun _ s => IM s) := by
  have f0 : 0 ≤ (σ 1 0).toInt ∧ (σ 1 0).toInt ≤ 9 := h.1 1 0
  unfold f_X7_lay
  refine zk_ite (fun h0 => ly34 a1 a2 a3 σ h (fun z => absurd (z.symm.trans h0) (by decide)) (fun z => absurd (z.symm.trans h0) (by decide))) (fun _ => ?_)
  refine zk_ite (fun h0 => ly34 a1 a2 a3 σ h (fun z => absurd (z.symm.trans h0) (by decide)) (fun z => absurd (z.symm.trans h0) (by decide))) (fun _ => ?_)
  refine zk_ite (fun h1 => ?_) (fun _ => ly22 a1 a2 a3 σ h)
  refine zk_call (s_X7_isStall a3 σ h.1) (fun r s hp => ?_)
  obtain ⟨rfl, hr⟩ := hp
  refine zk_ite (fun _ => ly22 a1 a2 a3 σ h) (fun hn => ?_)
  obtain ⟨-, g1, g2⟩ := hr.resolve_left hn
  exact ly34 a1 a2 a3 σ h (fun z => absurd (z.symm.trans h1) (by decide)) (fun _ => ⟨g1, by omega⟩)
/-! count -/
theorem i9 (k : Int32) (h0 : 0 ≤ k.toInt) (h1 : k.toInt ≤ 8) : k = 0 ∨ k = 1 ∨ k = 2 ∨ k = 3 ∨ k = 4 ∨ k = 5 ∨ k = 6 ∨ k = 7 ∨ k = 8 := by
  have e : ∀ n : Int32, k.toInt = n.toInt → k = n := fun n h => Int32.toInt_inj.mp h
  have e0 := e 0
  have e1 := e 1
  have e2 := e 2
  have e3 := e 3
  have e4 := e 4
  have e5 := e 5
  have e6 := e 6
  have e7 := e 7
  have e8 := e 8
  rw [zt_0] at e0
  rw [zt_1] at e1
  rw [zt_2] at e2
  rw [zt_3] at e3
  rw [zt_4] at e4
  rw [zt_5] at e5
  rw [zt_6] at e6
  rw [zt_7] at e7
  rw [zt_8] at e8
  have hc : k.toInt = 0 ∨ k.toInt = 1 ∨ k.toInt = 2 ∨ k.toInt = 3 ∨ k.toInt = 4 ∨ k.toInt = 5 ∨ k.toInt = 6 ∨ k.toInt = 7 ∨ k.toInt = 8 := by omega
  exact hc.imp e0 (Or.imp e1 (Or.imp e2 (Or.imp e3 (Or.imp e4 (Or.imp e5 (Or.imp e6 (Or.imp e7 e8)))))))
theorem sb_one (k : Int32) (h0 : 0 ≤ k.toInt) (h1 : k.toInt ≤ 8) : ((1 : Int32) <<< (k &&& 31)).toBitVec.toNat < 2 ^ (k.toInt.toNat + 1) := by
  rcases i9 k h0 h1 with rfl | rfl | rfl | rfl | rfl | rfl | rfl | rfl | rfl <;> decide
theorem sb_go (k v : Int32) (h0 : 0 ≤ k.toInt) (h1 : k.toInt ≤ 8) (h : v.toBitVec.toNat < 2 ^ k.toInt.toNat) : (v ||| ((1 : Int32) <<< (k &&& 31))).toBitVec.toNat < 2 ^ (k.toInt.toNat + 1) := by
  rw [Int32.toBitVec_or, BitVec.toNat_or]
  refine Nat.or_lt_two_pow (Nat.lt_of_lt_of_le h (Nat.pow_le_pow_right (by decide) (Nat.le_succ _))) (sb_one k h0 h1)
theorem sb_no (v : Int32) : v ||| 0 = v := Int32.or_zero
theorem m_shadedSet (σ : zg_S) (hσ : IMc σ) : zk (f_X7_shadedSet σ) (fun r s => σ = s ∧ r.toBitVec.toNat < 512) := by
  have e0 := zt_0
  have f0 : 0 ≤ (σ 1 0).toInt ∧ (σ 1 0).toInt ≤ 9 := hσ 1 0
  unfold f_X7_shadedSet L_X7_shadedSet_4
  refine zl_II (fun (v k : Int32) (s : zg_S) => σ = s ∧ v.toBitVec.toNat < 2 ^ k.toInt.toNat ∧ 0 ≤ k.toInt ∧ k.toInt ≤ 9) (fun (_ k : Int32) (_ : zg_S) => (9 - k.toInt).toNat) ?_ zfu _ _ _ ⟨rfl, by decide, by omega, by omega⟩ (by unfold zfu; omega)
  intro rec v k s hI ih
  obtain ⟨rfl, hv, i1, i2⟩ := hI
  unfold B_X7_shadedSet_4
  refine zk_ite (fun _ => zk_some ⟨rfl, Nat.lt_of_lt_of_le hv (Nat.le_trans (Nat.pow_le_pow_right (by decide) (show k.toInt.toNat ≤ 9 by omega)) (show 2 ^ 9 ≤ 512 by decide))⟩) (fun hl => ?_)
  have g := znle hl
  refine zk_call (s_X7_isShaded k σ hσ i1 (by omega)) (fun r t hp => ?_)
  obtain ⟨rfl, _⟩ := hp
  have ex := zTe (zTadd (zTs k) (zTl zt_1) (by omega) (by omega))
  have en : (k + 1).toInt.toNat = k.toInt.toNat + 1 := by rw [ex]; omega
  unfold B_X7_shadedSet_30
  refine zk_ite (fun _ => ?_) (fun _ => ?_)
  · rw [sb_no]
    exact ih v (k + 1) σ ⟨rfl, by rw [en]; exact Nat.lt_of_lt_of_le hv (Nat.pow_le_pow_right (by decide) (Nat.le_succ _)), by rw [ex]; omega, by rw [ex]; omega⟩ (by show (9 - (k + 1).toInt).toNat < (9 - k.toInt).toNat; rw [ex]; omega)
  · exact ih _ (k + 1) σ ⟨rfl, by rw [en]; exact sb_go k v i1 (by omega) hv, by rw [ex]; omega, by rw [ex]; omega⟩ (by show (9 - (k + 1).toInt).toNat < (9 - k.toInt).toNat; rw [ex]; omega)
theorem sb_less (x : Int32) (h : ¬ x = 0) : (x &&& (x - 1)).toBitVec.toNat < x.toBitVec.toNat := by
  rw [Int32.toBitVec_and, BitVec.toNat_and, Int32.toBitVec_sub]
  have hx : x.toBitVec.toNat ≠ 0 := fun z => h (Int32.toBitVec_inj.mp (BitVec.eq_of_toNat_eq z))
  have h1 := @Nat.and_le_right x.toBitVec.toNat (x.toBitVec - (1 : Int32).toBitVec).toNat
  have h3 : (1 : Int32).toBitVec.toNat = 1 := by decide
  have h4 : (1 : Int32).toBitVec ≤ x.toBitVec := by
    show (1 : Int32).toBitVec.toNat ≤ x.toBitVec.toNat
    omega
  have h2 := BitVec.toNat_sub_of_le h4
  omega
theorem m_manyShaded (σ : zg_S) (hσ : IMc σ) : zk (f_X7_manyShaded σ) (fun _ s => σ = s) := by
  unfold f_X7_manyShaded
  refine zk_call (m_shadedSet σ hσ) (fun r s hp => ?_)
  obtain ⟨rfl, hr⟩ := hp
  unfold L_X7_manyShaded_7
  refine zl_II (fun (_ v : Int32) (s : zg_S) => σ = s ∧ v.toBitVec.toNat < 512) (fun (_ v : Int32) (_ : zg_S) => v.toBitVec.toNat) ?_ zfu _ _ _ ⟨rfl, hr⟩ (by unfold zfu; show r.toBitVec.toNat < 100000; omega)
  intro rec n v s hI ih
  obtain ⟨rfl, hv⟩ := hI
  unfold B_X7_manyShaded_7
  refine zk_ite (fun _ => zk_some rfl) (fun hn => ?_)
  have hl := sb_less v hn
  exact ih _ _ σ ⟨rfl, by omega⟩ hl
theorem m_count (a1 : Int32) (σ : zg_S) (h : IM σ) : zk (f_X7_count a1 σ) (fun _ s => IM s) := by
  unfold f_X7_count
  refine zk_ite (fun _ => zk_some h) (fun _ => zk_ite (fun _ => zk_some h) (fun _ => zk_ite (fun _ => ?_) (fun _ => zk_ite (fun _ => zk_some h) (fun _ => zk_ite (fun _ => zk_some h) (fun _ => zk_ite (fun _ => zk_some h) (fun _ => zk_ite (fun _ => zk_some h) (fun _ => zk_some h)))))))
  refine zk_call (m_manyShaded σ h.1) (fun r s hp => ?_)
  subst hp
  exact zk_some h
end
section
/-! the tape, word by word -/
def tk (σ s : zg_S) : Prop := (∀ p, p ≠ 0 → s p = σ p) ∧ ∀ k, (k < 15 ∨ 19 < k) → s 0 k = σ 0 k
theorem tk.rf {σ : zg_S} : tk σ σ := ⟨fun _ _ => rfl, fun _ _ => rfl⟩
theorem tk.up {σ s : zg_S} {k : Nat} {v : Int32} (h : tk σ s) (h1 : 15 ≤ k) (h2 : k ≤ 19) : tk σ (zg_up s 0 k v) := ⟨fun p hp => (zg_row_ne hp).trans (h.1 p hp), fun j hj => (zkeepn (by omega)).trans (h.2 j hj)⟩
theorem tk.n {σ s : zg_S} (h : tk σ s) : s 0 14 = σ 0 14 := h.2 14 (by decide)
theorem tk.t {σ s : zg_S} (h : tk σ s) : s 13 = σ 13 := h.1 13 (by decide)
def cL (σ : zg_S) (i : Nat) : Prop := (i : Int) < (σ 0 14).toInt ∧ 97 ≤ (σ 13 i).toInt ∧ (σ 13 i).toInt ≤ 122
def cD (σ : zg_S) (i : Nat) : Prop := (i : Int) < (σ 0 14).toInt ∧ 48 ≤ (σ 13 i).toInt ∧ (σ 13 i).toInt ≤ 57
theorem cL_tk {σ s : zg_S} {i : Nat} (h : tk σ s) : cL s i ↔ cL σ i := by
  unfold cL
  rw [h.n, h.t]
theorem cD_tk {σ s : zg_S} {i : Nat} (h : tk σ s) : cD s i ↔ cD σ i := by
  unfold cD
  rw [h.n, h.t]
theorem x_isIn (a lo hi : Int32) (σ : zg_S) : zk (f_X7_isIn (Int32.toInt64 a) (Int32.toInt64 lo) (Int32.toInt64 hi) σ) (fun r s => σ = s ∧ ((r = 0 ∧ ¬ (lo.toInt ≤ a.toInt ∧ a.toInt ≤ hi.toInt)) ∨ (r = 1 ∧ lo.toInt ≤ a.toInt ∧ a.toInt ≤ hi.toInt))) := by
  unfold f_X7_isIn
  refine zk_ite (fun h1 => ?_) (fun h1 => ?_)
  · have g1 := (lg_cmp_lt _ _).mp h1
    rw [Int64.lt_iff_toInt_lt, zI64, zI64] at g1
    exact zk_some ⟨rfl, Or.inl ⟨rfl, by omega⟩⟩
  have g1 : ¬ _ := fun z => h1 ((lg_cmp_lt _ _).mpr z)
  refine zk_ite (fun h2 => ?_) (fun h2 => ?_)
  · have g2 := (lg_cmp_gt _ _).mp h2
    rw [Int64.lt_iff_toInt_lt, zI64, zI64] at g2
    exact zk_some ⟨rfl, Or.inl ⟨rfl, by omega⟩⟩
  have g2 : ¬ _ := fun z => h2 ((lg_cmp_gt _ _).mpr z)
  rw [Int64.lt_iff_toInt_lt, zI64, zI64] at g1 g2
  exact zk_some ⟨rfl, Or.inr ⟨rfl, by omega, by omega⟩⟩
theorem x_isLetter (a : Int32) (σ : zg_S) (hσ : IMc σ) (h0 : 0 ≤ a.toInt) : zk (f_X7_isLetter a σ) (fun r s => σ = s ∧ ((r = 0 ∧ ¬ cL σ a.toNatClampNeg) ∨ (r = 1 ∧ cL σ a.toNatClampNeg))) := by
  have f14 : 0 ≤ (σ 0 14).toInt ∧ (σ 0 14).toInt ≤ 96 := hσ 0 14
  have hn := ztn h0
  unfold f_X7_isLetter
  refine zk_ite (fun h => ?_) (fun h => ?_)
  · have g := zle h
    exact zk_some ⟨rfl, Or.inl ⟨rfl, fun z => by have := z.1; omega⟩⟩
  have g := znle h
  refine zk_in (zin_mk h0 (by omega)) ?_
  refine zk_call (x_isIn _ 97 122 σ) (fun r s hp => ?_)
  obtain ⟨rfl, hr⟩ := hp
  rw [show (97 : Int32).toInt = 97 by decide, show (122 : Int32).toInt = 122 by decide] at hr
  refine zk_ite (fun h => ?_) (fun h => ?_)
  · subst h
    refine zk_some ⟨rfl, Or.inl ⟨rfl, fun z => ?_⟩⟩
    rcases hr with hr | hr
    · exact hr.2 z.2
    · exact absurd hr.1 (by decide)
  · rcases hr with hr | hr
    · exact absurd hr.1 h
    · exact zk_some ⟨rfl, Or.inr ⟨rfl, by omega, hr.2⟩⟩
theorem x_isDigit (a : Int32) (σ : zg_S) (hσ : IMc σ) (h0 : 0 ≤ a.toInt) : zk (f_X7_isDigit a σ) (fun r s => σ = s ∧ ((r = 0 ∧ ¬ cD σ a.toNatClampNeg) ∨ (r = 1 ∧ cD σ a.toNatClampNeg))) := by
  have f14 : 0 ≤ (σ 0 14).toInt ∧ (σ 0 14).toInt ≤ 96 := hσ 0 14
  have hn := ztn h0
  unfold f_X7_isDigit
  refine zk_ite (fun h => ?_) (fun h => ?_)
  · have g := zle h
    exact zk_some ⟨rfl, Or.inl ⟨rfl, fun z => by have := z.1; omega⟩⟩
  have g := znle h
  refine zk_in (zin_mk h0 (by omega)) ?_
  refine zk_call (x_isIn _ 48 57 σ) (fun r s hp => ?_)
  obtain ⟨rfl, hr⟩ := hp
  rw [show (48 : Int32).toInt = 48 by decide, show (57 : Int32).toInt = 57 by decide] at hr
  refine zk_ite (fun h => ?_) (fun h => ?_)
  · subst h
    refine zk_some ⟨rfl, Or.inl ⟨rfl, fun z => ?_⟩⟩
    rcases hr with hr | hr
    · exact hr.2 z.2
    · exact absurd hr.1 (by decide)
  · rcases hr with hr | hr
    · exact absurd hr.1 h
    · exact zk_some ⟨rfl, Or.inr ⟨rfl, by omega, hr.2⟩⟩
/-- the first k digits from b on, as a number -/
def nv (T : Nat → Int32) (b : Nat) : Nat → Int32
  | 0 => 0
  | k + 1 => 10 * nv T b k + T (b + k) - 48
def tg (σ : zg_S) (B : Int32) : Prop := 0 < (σ 0 16).toInt ∧ (σ 0 17 = 1 ∨ σ 0 17 = 2) ∧ B = σ 0 16
/-- the next word or sign lies from B to E; K what it is, N the number, C the letter or sign -/
def nQ (σ : zg_S) (B E K N C : Int32) : Prop := (σ 0 16).toInt ≤ B.toInt ∧ B.toInt ≤ E.toInt ∧ E.toInt ≤ (σ 0 14).toInt ∧ (∀ i : Nat, (σ 0 16).toInt ≤ i → (i : Int) < B.toInt → σ 13 i = 32) ∧
  ((B.toInt = (σ 0 14).toInt ∧ K = 0 ∧ E = B) ∨
   (B.toInt < E.toInt ∧ (∀ i : Nat, B.toInt ≤ i → (i : Int) < E.toInt → cL σ i) ∧ ¬ cL σ E.toNatClampNeg ∧ ((tg σ B ∧ K = 4) ∨ (¬ tg σ B ∧ K = 1)) ∧ ((E.toInt = B.toInt + 1 ∧ C = σ 13 B.toNatClampNeg) ∨ (¬ E.toInt = B.toInt + 1 ∧ C = 0))) ∨
   (B.toInt < E.toInt ∧ (∀ i : Nat, B.toInt ≤ i → (i : Int) < E.toInt → cD σ i) ∧ ¬ cD σ E.toNatClampNeg ∧ N = nv (σ 13) B.toNatClampNeg (min 4 (E.toInt - B.toInt).toNat) ∧ (((tg σ B ∨ 4 < E.toInt - B.toInt) ∧ K = 4) ∨ (¬ (tg σ B ∨ 4 < E.toInt - B.toInt) ∧ K = 2))) ∨
   (E.toInt = B.toInt + 1 ∧ ¬ cL σ B.toNatClampNeg ∧ ¬ cD σ B.toNatClampNeg ∧ ¬ σ 13 B.toNatClampNeg = 32 ∧ K = 3 ∧ C = σ 13 B.toNatClampNeg))
def NQ (σ : zg_S) (_ : Int32) (s : zg_S) : Prop := IMc s ∧ tk σ s ∧ nQ σ (s 0 15) (s 0 16) (s 0 17) (s 0 18) (s 0 19)
/-- what is known when the word begins: only blanks lie ahead of B -/
def nB (σ : zg_S) (B : Int32) : Prop := (σ 0 16).toInt ≤ B.toInt ∧ (∀ i : Nat, (σ 0 16).toInt ≤ i → (i : Int) < B.toInt → σ 13 i = 32)
theorem zsubn (a b : Int32) (ha : 0 ≤ a.toInt) (hb : 0 ≤ b.toInt) : (a - b).toInt = a.toInt - b.toInt := by
  have h1 := Int32.toInt_lt a
  have h2 := Int32.toInt_lt b
  exact zsub a b (by omega) (by omega)
theorem nt162 (y0 B E : Int32) (σ s : zg_S) (hs : IMc s) (hk : tk σ s) (h15 : s 0 15 = B) (h16 : s 0 16 = E) (b0 : 0 ≤ B.toInt) (hB : nB σ B) (hl : B.toInt < E.toInt) (hn : E.toInt ≤ (σ 0 14).toInt) (hL : ∀ i : Nat, B.toInt ≤ i → (i : Int) < E.toInt → cL σ i) (hE : ¬ cL σ E.toNatClampNeg) (hy : (tg σ B ∧ y0 = 4) ∨ (¬ tg σ B ∧ y0 = 1)) : zk (B_X7_nextToken_162 y0 s) (NQ σ) := by
  have e1 := zt_1
  have f14 : 0 ≤ (s 0 14).toInt ∧ (s 0 14).toInt ≤ 96 := hs 0 14
  rw [hk.n] at f14
  unfold B_X7_nextToken_162
  refine zk_let (fun t q => ?_)
  have ht : IMc t := by rw [q]; exact IMc.up hs (zTs _) trivial
  have kt : tk σ t := by rw [q]; exact hk.up (by decide) (by decide)
  have t15 : t 0 15 = B := by rw [q]; exact (zkeepf rfl).trans h15
  have t16 : t 0 16 = E := by rw [q]; exact (zkeepf rfl).trans h16
  have t17 : t 0 17 = y0 := by rw [q]; exact zgot
  rw [t15, t16]
  have es := zsubn E B (by omega) b0
  refine zk_ite (fun h => ?_) (fun h => ?_)
  · have g := zeq h
    refine zk_in (zin_mk b0 (by omega)) ?_
    refine zk_let (fun y ey => ?_)
    refine zk_let (fun u q => ?_)
    rw [kt.t] at ey
    refine zk_some ⟨by rw [q]; exact IMc.up ht (zTs _) trivial, by rw [q]; exact kt.up (by decide) (by decide), ?_⟩
    have u15 : u 0 15 = B := by rw [q]; exact (zkeepf rfl).trans t15
    have u16 : u 0 16 = E := by rw [q]; exact (zkeepf rfl).trans t16
    have u17 : u 0 17 = y0 := by rw [q]; exact (zkeepf rfl).trans t17
    have u19 : u 0 19 = y := by rw [q]; exact zgot
    rw [u15, u16, u17, u19]
    exact ⟨hB.1, by omega, hn, hB.2, Or.inr (Or.inl ⟨hl, hL, hE, hy, Or.inl ⟨by omega, ey⟩⟩)⟩
  · have g := zne h
    refine zk_let (fun u q => ?_)
    refine zk_some ⟨by rw [q]; exact IMc.up ht (zTs _) trivial, by rw [q]; exact kt.up (by decide) (by decide), ?_⟩
    have u15 : u 0 15 = B := by rw [q]; exact (zkeepf rfl).trans t15
    have u16 : u 0 16 = E := by rw [q]; exact (zkeepf rfl).trans t16
    have u17 : u 0 17 = y0 := by rw [q]; exact (zkeepf rfl).trans t17
    have u19 : u 0 19 = 0 := by rw [q]; exact zgot
    rw [u15, u16, u17, u19]
    exact ⟨hB.1, by omega, hn, hB.2, Or.inr (Or.inl ⟨hl, hL, hE, hy, Or.inr ⟨by omega, rfl⟩⟩)⟩
theorem nt128 (y0 B : Int32) (σ s : zg_S) (hs : IMc s) (hk : tk σ s) (h15 : s 0 15 = B) (h16 : s 0 16 = B) (b0 : 0 ≤ B.toInt) (hB : nB σ B) (hn : B.toInt < (σ 0 14).toInt) (hL : cL σ B.toNatClampNeg) (hy : (tg σ B ∧ y0 = 1) ∨ (¬ tg σ B ∧ y0 = 0)) : zk (L_X7_nextToken_128 zfu y0 s) (NQ σ) := by
  have e1 := zt_1
  have f14 : 0 ≤ (s 0 14).toInt ∧ (s 0 14).toInt ≤ 96 := hs 0 14
  rw [hk.n] at f14
  have nb := ztn b0
  unfold L_X7_nextToken_128
  refine zl_I (fun (x : Int32) (t : zg_S) => x = y0 ∧ IMc t ∧ tk σ t ∧ t 0 15 = B ∧ B.toInt ≤ (t 0 16).toInt ∧ (t 0 16).toInt ≤ (σ 0 14).toInt ∧ (∀ i : Nat, B.toInt ≤ i → (i : Int) < (t 0 16).toInt → cL σ i)) (fun (_ : Int32) (t : zg_S) => (97 - (t 0 16).toInt).toNat) ?_ zfu _ _ ⟨rfl, hs, hk, h15, by rw [h16]; omega, by rw [h16]; omega, fun i h1 h2 => by rw [h16] at h2; omega⟩ (by unfold zfu; show (97 - (s 0 16).toInt).toNat < 100000; rw [h16]; omega)
  intro rec x t hI ih
  obtain ⟨rfl, ht, kt, t15, i1, i2, i3⟩ := hI
  unfold B_X7_nextToken_128
  have ne := ztn (i := t 0 16) (by omega)
  refine zk_call (x_isLetter (t 0 16) t ht (by omega)) (fun r u hp => ?_)
  obtain ⟨rfl, hr⟩ := hp
  rw [cL_tk kt] at hr
  refine zk_ite (fun hr0 => ?_) (fun hr0 => ?_)
  · rcases hr with ⟨-, hr⟩ | ⟨hr, -⟩
    · have hlt : B.toInt < (t 0 16).toInt := by
        by_cases c : (t 0 16).toInt = B.toInt
        · exact absurd hL (by rw [show B = t 0 16 from (Int32.toInt_inj.mp c).symm]; exact hr)
        · omega
      refine zk_ite (fun hx => ?_) (fun hx => ?_)
      · rcases hy with hy | hy
        · exact absurd (hy.2.symm.trans hx) (by decide)
        · exact nt162 1 B (t 0 16) σ t ht kt t15 rfl b0 hB hlt i2 i3 hr (Or.inr ⟨hy.1, rfl⟩)
      · rcases hy with hy | hy
        · exact nt162 4 B (t 0 16) σ t ht kt t15 rfl b0 hB hlt i2 i3 hr (Or.inl ⟨hy.1, rfl⟩)
        · exact absurd hy.2 hx
    · exact absurd (hr.symm.trans hr0) (by decide)
  · rcases hr with ⟨hr, -⟩ | ⟨-, hr⟩
    · exact absurd hr hr0
    · have hlt := hr.1
      refine zk_let (fun u q => ?_)
      have ex := zTe (zTadd (zTs (t 0 16)) (zTl zt_1) (by omega) (by omega))
      have u16 : (u 0 16).toInt = (t 0 16).toInt + 1 := by rw [q]; exact (congrArg Int32.toInt zgot).trans ex
      refine ih x u ⟨rfl, by rw [q]; exact IMc.up ht (zTl ex) ⟨by omega, by omega⟩, by rw [q]; exact kt.up (by decide) (by decide), by rw [q]; exact (zkeepf rfl).trans t15, by omega, by omega, fun i h1 h2 => ?_⟩ (by show (97 - (u 0 16).toInt).toNat < (97 - (t 0 16).toInt).toNat; omega)
      by_cases c : (i : Int) < (t 0 16).toInt
      · exact i3 i h1 c
      · rw [show i = (t 0 16).toNatClampNeg by omega]
        exact hr
theorem nt300 (B E N : Int32) (σ s : zg_S) (hs : IMc s) (hk : tk σ s) (h15 : s 0 15 = B) (h16 : s 0 16 = E) (h18 : s 0 18 = N) (hB : nB σ B) (hl : B.toInt < E.toInt) (hn : E.toInt ≤ (σ 0 14).toInt) (hL : ∀ i : Nat, B.toInt ≤ i → (i : Int) < E.toInt → cD σ i) (hE : ¬ cD σ E.toNatClampNeg) (hN : N = nv (σ 13) B.toNatClampNeg (min 4 (E.toInt - B.toInt).toNat)) (hy : tg σ B ∨ 4 < E.toInt - B.toInt) : zk (B_X7_nextToken_300 s) (NQ σ) := by
  unfold B_X7_nextToken_300
  refine zk_let (fun u q => ?_)
  refine zk_some ⟨by rw [q]; exact IMc.up hs (zTs _) trivial, by rw [q]; exact hk.up (by decide) (by decide), ?_⟩
  have u15 : u 0 15 = B := by rw [q]; exact (zkeepf rfl).trans h15
  have u16 : u 0 16 = E := by rw [q]; exact (zkeepf rfl).trans h16
  have u18 : u 0 18 = N := by rw [q]; exact (zkeepf rfl).trans h18
  have u17 : u 0 17 = 4 := by rw [q]; exact zgot
  rw [u15, u16, u17, u18]
  exact ⟨hB.1, by omega, hn, hB.2, Or.inr (Or.inr (Or.inl ⟨hl, hL, hE, hN, Or.inl ⟨hy, rfl⟩⟩))⟩
theorem nt214 (y0 B : Int32) (σ s : zg_S) (hs : IMc s) (hk : tk σ s) (h15 : s 0 15 = B) (h16 : s 0 16 = B) (h18 : s 0 18 = 0) (b0 : 0 ≤ B.toInt) (hB : nB σ B) (hn : B.toInt < (σ 0 14).toInt) (hL : cD σ B.toNatClampNeg) (hy : (tg σ B ∧ y0 = 1) ∨ (¬ tg σ B ∧ y0 = 0)) : zk (L_X7_nextToken_214 zfu y0 s) (NQ σ) := by
  have e1 := zt_1
  have e4 := zt_4
  have f14 : 0 ≤ (s 0 14).toInt ∧ (s 0 14).toInt ≤ 96 := hs 0 14
  rw [hk.n] at f14
  have nb := ztn b0
  unfold L_X7_nextToken_214
  refine zl_I (fun (x : Int32) (t : zg_S) => x = y0 ∧ IMc t ∧ tk σ t ∧ t 0 15 = B ∧ B.toInt ≤ (t 0 16).toInt ∧ (t 0 16).toInt ≤ (σ 0 14).toInt ∧ (∀ i : Nat, B.toInt ≤ i → (i : Int) < (t 0 16).toInt → cD σ i) ∧ t 0 18 = nv (σ 13) B.toNatClampNeg (min 4 ((t 0 16).toInt - B.toInt).toNat)) (fun (_ : Int32) (t : zg_S) => (97 - (t 0 16).toInt).toNat) ?_ zfu _ _ ⟨rfl, hs, hk, h15, by rw [h16]; omega, by rw [h16]; omega, fun i h1 h2 => by rw [h16] at h2; omega, by rw [h16, h18, show (B.toInt - B.toInt).toNat = 0 by omega]; rfl⟩ (by unfold zfu; show (97 - (s 0 16).toInt).toNat < 100000; rw [h16]; omega)
  intro rec x t hI ih
  obtain ⟨rfl, ht, kt, t15, i1, i2, i3, i4⟩ := hI
  unfold B_X7_nextToken_214
  have ne := ztn (i := t 0 16) (by omega)
  refine zk_call (x_isDigit (t 0 16) t ht (by omega)) (fun r u hp => ?_)
  obtain ⟨rfl, hr⟩ := hp
  rw [cD_tk kt] at hr
  have es := zsubn (t 0 16) B (by omega) b0
  rw [t15]
  refine zk_ite (fun hr0 => ?_) (fun hr0 => ?_)
  · rcases hr with ⟨-, hr⟩ | ⟨hr, -⟩
    · have hlt : B.toInt < (t 0 16).toInt := by
        by_cases c : (t 0 16).toInt = B.toInt
        · exact absurd hL (by rw [show B = t 0 16 from (Int32.toInt_inj.mp c).symm]; exact hr)
        · omega
      refine zk_ite (fun hx => ?_) (fun hx => ?_)
      · rcases hy with hy | hy
        · exact absurd (hy.2.symm.trans hx) (by decide)
        · refine zk_ite (fun h4 => ?_) (fun h4 => ?_)
          · have g4 := zle h4
            refine zk_let (fun u q => ?_)
            refine zk_some ⟨by rw [q]; exact IMc.up ht (zTs _) trivial, by rw [q]; exact kt.up (by decide) (by decide), ?_⟩
            have u15 : u 0 15 = B := by rw [q]; exact (zkeepf rfl).trans t15
            have u16 : u 0 16 = t 0 16 := by rw [q]; exact zkeepf rfl
            have u18 : u 0 18 = t 0 18 := by rw [q]; exact zkeepf rfl
            have u17 : u 0 17 = 2 := by rw [q]; exact zgot
            rw [u15, u16, u17, u18]
            exact ⟨hB.1, by omega, i2, hB.2, Or.inr (Or.inr (Or.inl ⟨hlt, i3, hr, i4, Or.inr ⟨fun z => z.elim hy.1 (fun z => by omega), rfl⟩⟩))⟩
          · have g4 := znle h4
            exact nt300 B (t 0 16) (t 0 18) σ t ht kt t15 rfl rfl hB hlt i2 i3 hr i4 (Or.inr (by omega))
      · rcases hy with hy | hy
        · exact nt300 B (t 0 16) (t 0 18) σ t ht kt t15 rfl rfl hB hlt i2 i3 hr i4 (Or.inl hy.1)
        · exact absurd hy.2 hx
    · exact absurd (hr.symm.trans hr0) (by decide)
  · rcases hr with ⟨hr, -⟩ | ⟨-, hr⟩
    · exact absurd hr hr0
    · have hlt := hr.1
      have ex := zTe (zTadd (zTs (t 0 16)) (zTl zt_1) (by omega) (by omega))
      have ee : ∀ y : Int32, y = nv (σ 13) B.toNatClampNeg (min 4 ((t 0 16).toInt + 1 - B.toInt).toNat) → zk (B_X7_nextToken_266 rec x y t) (NQ σ) := fun y hy' => by
        unfold B_X7_nextToken_266
        refine zk_let (fun u q => ?_)
        have hu : IMc u := by rw [q]; exact IMc.up ht (zTs _) trivial
        have ku : tk σ u := by rw [q]; exact kt.up (by decide) (by decide)
        have u15 : u 0 15 = B := by rw [q]; exact (zkeepf rfl).trans t15
        have u16 : u 0 16 = t 0 16 := by rw [q]; exact zkeepf rfl
        have u18 : u 0 18 = y := by rw [q]; exact zgot
        rw [u16]
        refine zk_let (fun w q => ?_)
        have w16 : (w 0 16).toInt = (t 0 16).toInt + 1 := by rw [q]; exact (congrArg Int32.toInt zgot).trans ex
        refine ih x w ⟨rfl, by rw [q]; exact IMc.up hu (zTl ex) ⟨by omega, by omega⟩, by rw [q]; exact ku.up (by decide) (by decide), by rw [q]; exact (zkeepf rfl).trans u15, by omega, by omega, fun i h1 h2 => ?_, ?_⟩ (by show (97 - (w 0 16).toInt).toNat < (97 - (t 0 16).toInt).toNat; omega)
        · by_cases c : (i : Int) < (t 0 16).toInt
          · exact i3 i h1 c
          · rw [show i = (t 0 16).toNatClampNeg by omega]
            exact hr
        · rw [w16]
          have w18 : w 0 18 = y := by rw [q]; exact (zkeepf rfl).trans u18
          rw [w18]
          exact hy'
      refine zk_ite (fun h4 => ?_) (fun h4 => ?_)
      · have g4 := zle h4
        refine ee _ ?_
        rw [i4, show min 4 ((t 0 16).toInt - B.toInt).toNat = 4 by omega, show min 4 ((t 0 16).toInt + 1 - B.toInt).toNat = 4 by omega]
      · have g4 := znle h4
        refine zk_in (zin_mk (by omega) (by omega)) ?_
        refine ee _ ?_
        rw [i4, kt.t, show min 4 ((t 0 16).toInt - B.toInt).toNat = ((t 0 16).toInt - B.toInt).toNat by omega, show min 4 ((t 0 16).toInt + 1 - B.toInt).toNat = ((t 0 16).toInt - B.toInt).toNat + 1 by omega]
        show _ = 10 * nv (σ 13) B.toNatClampNeg ((t 0 16).toInt - B.toInt).toNat + σ 13 (B.toNatClampNeg + ((t 0 16).toInt - B.toInt).toNat) - 48
        rw [show B.toNatClampNeg + ((t 0 16).toInt - B.toInt).toNat = (t 0 16).toNatClampNeg by omega]
theorem nt89 (y0 : Int32) (σ s : zg_S) (hs : IMc s) (hk : tk σ s) (hB : nB σ (s 0 16)) (hn : (s 0 16).toInt ≤ (σ 0 14).toInt) (hb : (s 0 16).toInt = (σ 0 14).toInt ∨ ¬ σ 13 (s 0 16).toNatClampNeg = 32) (hy : (tg σ (s 0 16) ∧ y0 = 1) ∨ (¬ tg σ (s 0 16) ∧ y0 = 0)) : zk (B_X7_nextToken_89 y0 s) (NQ σ) := by
  have e1 := zt_1
  have f14 : 0 ≤ (s 0 14).toInt ∧ (s 0 14).toInt ≤ 96 := hs 0 14
  rw [hk.n] at f14
  have f16 : 0 ≤ (s 0 16).toInt ∧ (s 0 16).toInt ≤ 96 := hs 0 16
  have nb := ztn f16.1
  unfold B_X7_nextToken_89
  refine zk_let (fun t q => ?_)
  have ht : IMc t := by rw [q]; exact IMc.up hs (zTs _) f16
  have kt : tk σ t := by rw [q]; exact hk.up (by decide) (by decide)
  have t15 : t 0 15 = s 0 16 := by rw [q]; exact zgot
  have t16 : t 0 16 = s 0 16 := by rw [q]; exact zkeepf rfl
  rw [t15, kt.n]
  refine zk_ite (fun h => ?_) (fun h => ?_)
  · refine zk_let (fun u q => ?_)
    refine zk_some ⟨by rw [q]; exact IMc.up ht (zTs _) trivial, by rw [q]; exact kt.up (by decide) (by decide), ?_⟩
    have u15 : u 0 15 = s 0 16 := by rw [q]; exact (zkeepf rfl).trans t15
    have u16 : u 0 16 = s 0 16 := by rw [q]; exact (zkeepf rfl).trans t16
    have u17 : u 0 17 = 0 := by rw [q]; exact zgot
    rw [u15, u16, u17]
    exact ⟨hB.1, Int.le_refl _, hn, hB.2, Or.inl ⟨zeq h, rfl, rfl⟩⟩
  · have g := zne h
    have hlt : (s 0 16).toInt < (σ 0 14).toInt := by omega
    refine zk_call (x_isLetter (s 0 16) t ht f16.1) (fun r u hp => ?_)
    obtain ⟨rfl, hr⟩ := hp
    rw [cL_tk kt] at hr
    refine zk_ite (fun hr0 => ?_) (fun hr0 => ?_)
    · rcases hr with ⟨-, hr⟩ | ⟨hr, -⟩
      · rw [t15]
        refine zk_call (x_isDigit (s 0 16) t ht f16.1) (fun r2 u hp => ?_)
        obtain ⟨rfl, hr2⟩ := hp
        rw [cD_tk kt] at hr2
        refine zk_ite (fun hr20 => ?_) (fun hr20 => ?_)
        · rcases hr2 with ⟨-, hr2⟩ | ⟨hr2, -⟩
          · refine zk_let (fun u q => ?_)
            have hu : IMc u := by rw [q]; exact IMc.up ht (zTs _) trivial
            have ku : tk σ u := by rw [q]; exact kt.up (by decide) (by decide)
            have u15 : u 0 15 = s 0 16 := by rw [q]; exact (zkeepf rfl).trans t15
            have u16 : u 0 16 = s 0 16 := by rw [q]; exact (zkeepf rfl).trans t16
            have u17 : u 0 17 = 3 := by rw [q]; exact zgot
            rw [u15]
            refine zk_in (zin_mk f16.1 (by omega)) ?_
            refine zk_let (fun y ey => ?_)
            rw [ku.t] at ey
            refine zk_let (fun v q => ?_)
            have hv : IMc v := by rw [q]; exact IMc.up hu (zTs _) trivial
            have kv : tk σ v := by rw [q]; exact ku.up (by decide) (by decide)
            have v15 : v 0 15 = s 0 16 := by rw [q]; exact (zkeepf rfl).trans u15
            have v16 : v 0 16 = s 0 16 := by rw [q]; exact (zkeepf rfl).trans u16
            have v17 : v 0 17 = 3 := by rw [q]; exact (zkeepf rfl).trans u17
            have v19 : v 0 19 = y := by rw [q]; exact zgot
            rw [v16]
            refine zk_let (fun w q => ?_)
            have ex := zTe (zTadd (zTs (s 0 16)) (zTl zt_1) (by omega) (by omega))
            refine zk_some ⟨by rw [q]; exact IMc.up hv (zTl ex) ⟨by omega, by omega⟩, by rw [q]; exact kv.up (by decide) (by decide), ?_⟩
            have w15 : w 0 15 = s 0 16 := by rw [q]; exact (zkeepf rfl).trans v15
            have w16 : w 0 16 = s 0 16 + 1 := by rw [q]; exact zgot
            have w17 : w 0 17 = 3 := by rw [q]; exact (zkeepf rfl).trans v17
            have w19 : w 0 19 = y := by rw [q]; exact (zkeepf rfl).trans v19
            rw [w15, w16, w17, w19]
            exact ⟨hB.1, by omega, by omega, hB.2, Or.inr (Or.inr (Or.inr ⟨ex, hr, hr2, hb.resolve_left g, rfl, ey⟩))⟩
          · exact absurd (hr2.symm.trans hr20) (by decide)
        · rcases hr2 with ⟨hr2, -⟩ | ⟨-, hr2⟩
          · exact absurd hr2 hr20
          · refine zk_let (fun u q => ?_)
            have hu : IMc u := by rw [q]; exact IMc.up ht (zTs _) trivial
            have ku : tk σ u := by rw [q]; exact kt.up (by decide) (by decide)
            have u15 : u 0 15 = s 0 16 := by rw [q]; exact (zkeepf rfl).trans t15
            have u16 : u 0 16 = s 0 16 := by rw [q]; exact (zkeepf rfl).trans t16
            have u18 : u 0 18 = 0 := by rw [q]; exact zgot
            exact nt214 y0 (s 0 16) σ u hu ku u15 u16 u18 f16.1 hB hlt hr2 hy
      · exact absurd (hr.symm.trans hr0) (by decide)
    · rcases hr with ⟨hr, -⟩ | ⟨-, hr⟩
      · exact absurd hr hr0
      · exact nt128 y0 (s 0 16) σ t ht kt t15 t16 f16.1 hB hlt hr hy
theorem nt72 (x1 : Int32) (σ s : zg_S) (hs : IMc s) (hk : tk σ s) (hB : nB σ (s 0 16)) (hn : (s 0 16).toInt ≤ (σ 0 14).toInt) (hb : (s 0 16).toInt = (σ 0 14).toInt ∨ ¬ σ 13 (s 0 16).toNatClampNeg = 32) (hy : ((0 < (σ 0 16).toInt ∧ (σ 0 17 = 1 ∨ σ 0 17 = 2)) ∧ x1 = 1) ∨ (¬ (0 < (σ 0 16).toInt ∧ (σ 0 17 = 1 ∨ σ 0 17 = 2)) ∧ x1 = 0)) : zk (B_X7_nextToken_72 x1 (σ 0 16) s) (NQ σ) := by
  unfold B_X7_nextToken_72 B_X7_nextToken_88
  refine zk_ite (fun h => ?_) (fun h => ?_)
  · rcases hy with hy | hy
    · exact absurd (hy.2.symm.trans h) (by decide)
    · exact nt89 0 σ s hs hk hB hn hb (Or.inr ⟨fun z => hy.1 ⟨z.1, z.2.1⟩, rfl⟩)
  · rcases hy with hy | hy
    · refine zk_ite (fun h2 => ?_) (fun h2 => ?_)
      · exact nt89 1 σ s hs hk hB hn hb (Or.inl ⟨⟨hy.1.1, hy.1.2, h2.symm⟩, rfl⟩)
      · exact nt89 0 σ s hs hk hB hn hb (Or.inr ⟨fun z => h2 z.2.2.symm, rfl⟩)
    · exact absurd hy.2 h
theorem nt28 (y0 : Int32) (σ : zg_S) (hσ : IMc σ) (hn : (σ 0 16).toInt ≤ (σ 0 14).toInt) (hy : ((0 < (σ 0 16).toInt ∧ (σ 0 17 = 1 ∨ σ 0 17 = 2)) ∧ y0 = 1) ∨ (¬ (0 < (σ 0 16).toInt ∧ (σ 0 17 = 1 ∨ σ 0 17 = 2)) ∧ y0 = 0)) : zk (B_X7_nextToken_28 y0 σ) (NQ σ) := by
  have e1 := zt_1
  have f14 : 0 ≤ (σ 0 14).toInt ∧ (σ 0 14).toInt ≤ 96 := hσ 0 14
  have f16 : 0 ≤ (σ 0 16).toInt ∧ (σ 0 16).toInt ≤ 96 := hσ 0 16
  unfold B_X7_nextToken_28 L_X7_nextToken_34
  refine zl_II (fun (x1 x2 : Int32) (t : zg_S) => x1 = y0 ∧ x2 = σ 0 16 ∧ IMc t ∧ tk σ t ∧ nB σ (t 0 16) ∧ (t 0 16).toInt ≤ (σ 0 14).toInt) (fun (_ _ : Int32) (t : zg_S) => (97 - (t 0 16).toInt).toNat) ?_ zfu _ _ _ ⟨rfl, rfl, hσ, tk.rf, ⟨Int.le_refl _, fun i h1 h2 => by omega⟩, hn⟩ (by unfold zfu; show (97 - (σ 0 16).toInt).toNat < 100000; omega)
  intro rec x1 x2 t hI ih
  obtain ⟨rfl, rfl, ht, kt, hB, hn2⟩ := hI
  have b0 := hB.1
  unfold B_X7_nextToken_34
  rw [kt.n]
  refine zk_ite (fun h => ?_) (fun h => ?_)
  · have g := zle h
    exact nt72 x1 σ t ht kt hB hn2 (Or.inl (by omega)) hy
  · have g := znle h
    refine zk_in (zin_mk (by omega) (by omega)) ?_
    rw [kt.t]
    refine zk_ite (fun h3 => ?_) (fun h3 => nt72 x1 σ t ht kt hB hn2 (Or.inr h3) hy)
    refine zk_let (fun u q => ?_)
    have ex := zTe (zTadd (zTs (t 0 16)) (zTl zt_1) (by omega) (by omega))
    have u16 : (u 0 16).toInt = (t 0 16).toInt + 1 := by rw [q]; exact (congrArg Int32.toInt zgot).trans ex
    have ne := ztn (i := t 0 16) (by omega)
    refine ih x1 _ u ⟨rfl, rfl, by rw [q]; exact IMc.up ht (zTl ex) ⟨by omega, by omega⟩, by rw [q]; exact kt.up (by decide) (by decide), ⟨by omega, fun i h1 h2 => ?_⟩, by omega⟩ (by show (97 - (u 0 16).toInt).toNat < (97 - (t 0 16).toInt).toNat; omega)
    by_cases c : (i : Int) < (t 0 16).toInt
    · exact hB.2 i h1 c
    · rw [show i = (t 0 16).toNatClampNeg by omega]
      exact h3
theorem s_X7_nextToken (σ : zg_S) (hσ : IMc σ) (hn : (σ 0 16).toInt ≤ (σ 0 14).toInt) : zk (f_X7_nextToken σ) (NQ σ) := by
  have e0 := zt_0
  unfold f_X7_nextToken B_X7_nextToken_27 B_X7_nextToken_23
  refine zk_ite (fun h => ?_) (fun h => ?_)
  · have g := zle h
    exact nt28 0 σ hσ hn (Or.inr ⟨fun z => by omega, rfl⟩)
  · have g := znle h
    refine zk_ite (fun h1 => ?_) (fun h1 => ?_)
    · exact nt28 1 σ hσ hn (Or.inl ⟨⟨by omega, Or.inl h1⟩, rfl⟩)
    · refine zk_ite (fun h2 => ?_) (fun h2 => ?_)
      · exact nt28 1 σ hσ hn (Or.inl ⟨⟨by omega, Or.inr h2⟩, rfl⟩)
      · exact nt28 0 σ hσ hn (Or.inr ⟨fun z => z.2.elim h1 h2, rfl⟩)
end
section
theorem m_isWordAt (a1 a2 a3 a4 : Int32) (σ : zg_S) (hσ : IMc σ) : zk (f_X7_isWordAt a1 a2 a3 a4 σ) (fun r s => σ = s ∧ (r = 0 ∨ r = 1)) := by
  have e1 := zt_1
  have e2 := zt_2
  have e3 := zt_3
  have e4 := zt_4
  have f15 : 0 ≤ (σ 0 15).toInt ∧ (σ 0 15).toInt ≤ 96 := hσ 0 15
  have f16 : 0 ≤ (σ 0 16).toInt ∧ (σ 0 16).toInt ≤ 96 := hσ 0 16
  have es := zsubn (σ 0 16) (σ 0 15) f16.1 f15.1
  have ee : ∀ y : Int32, (y = 3 ∧ a4 = 0) ∨ y = 4 → zk (B_X7_isWordAt_10 a1 a2 a3 a4 y σ) (fun r s => σ = s ∧ (r = 0 ∨ r = 1)) := fun y hy => by
    unfold B_X7_isWordAt_10
    have o : zk (some ((0 : Int32), σ)) (fun r s => σ = s ∧ (r = 0 ∨ r = 1)) := zk_some ⟨rfl, Or.inl rfl⟩
    have i : zk (some ((1 : Int32), σ)) (fun r s => σ = s ∧ (r = 0 ∨ r = 1)) := zk_some ⟨rfl, Or.inr rfl⟩
    refine zk_ite (fun _ => ?_) (fun _ => o)
    refine zk_ite (fun hl => ?_) (fun _ => o)
    have g := zeq hl
    have hy' : y.toInt = 3 ∧ a4 = 0 ∨ y.toInt = 4 := hy.imp (fun h => ⟨by rw [h.1]; exact zt_3, h.2⟩) (fun h => by rw [h]; exact zt_4)
    refine zk_in (zin_mk f15.1 (by omega)) ?_
    refine zk_ite (fun _ => ?_) (fun _ => o)
    refine zk_in (zin_mkT (zTadd (zTs _) (zTl zt_1) (by omega) (by omega)) (by omega) (by omega)) ?_
    refine zk_ite (fun _ => ?_) (fun _ => o)
    refine zk_in (zin_mkT (zTadd (zTs _) (zTl zt_2) (by omega) (by omega)) (by omega) (by omega)) ?_
    refine zk_ite (fun _ => ?_) (fun _ => o)
    refine zk_ite (fun _ => i) (fun h4 => ?_)
    have hy4 : y.toInt = 4 := hy'.resolve_left (fun z => h4 z.2)
    refine zk_in (zin_mkT (zTadd (zTs _) (zTl zt_3) (by omega) (by omega)) (by omega) (by omega)) ?_
    exact zk_ite (fun _ => i) (fun _ => o)
  unfold f_X7_isWordAt
  exact zk_ite (fun h => ee 3 (Or.inl ⟨rfl, h⟩)) (fun _ => ee 4 (Or.inr rfl))
theorem m_key (σ : zg_S) (hσ : IMc σ) : zk (f_X7_key σ) (fun r s => σ = s ∧ (r = -1 ∨ r = 0 ∨ r = 1 ∨ r = 2)) := by
  unfold f_X7_key
  refine zk_call (m_isWordAt 109 101 108 116 σ hσ) (fun r s hp => ?_)
  obtain ⟨rfl, _⟩ := hp
  refine zk_ite (fun _ => ?_) (fun _ => zk_some ⟨rfl, Or.inr (Or.inl rfl)⟩)
  refine zk_call (m_isWordAt 102 101 101 0 σ hσ) (fun r s hp => ?_)
  obtain ⟨rfl, _⟩ := hp
  refine zk_ite (fun _ => ?_) (fun _ => zk_some ⟨rfl, Or.inr (Or.inr (Or.inl rfl))⟩)
  refine zk_call (m_isWordAt 102 105 110 101 σ hσ) (fun r s hp => ?_)
  obtain ⟨rfl, _⟩ := hp
  exact zk_ite (fun _ => zk_some ⟨rfl, Or.inl rfl⟩) (fun _ => zk_some ⟨rfl, Or.inr (Or.inr (Or.inr rfl))⟩)
theorem m_isName (a0 a1 : Int32) (σ : zg_S) : zk (f_X7_isName a0 a1 σ) (fun r s => σ = s ∧ (r = 0 ∨ (r = 1 ∧ 0 ≤ a1.toInt ∧ a1.toInt < 128))) := by
  unfold f_X7_isName
  have o : zk (some ((0 : Int32), σ)) (fun r s => σ = s ∧ (r = 0 ∨ (r = 1 ∧ 0 ≤ a1.toInt ∧ a1.toInt < 128))) := zk_some ⟨rfl, Or.inl rfl⟩
  have i : ∀ c : Int32, 0 ≤ c.toInt ∧ c.toInt < 128 → a1 = c → zk (some ((1 : Int32), σ)) (fun r s => σ = s ∧ (r = 0 ∨ (r = 1 ∧ 0 ≤ a1.toInt ∧ a1.toInt < 128))) := fun c hc h => zk_some ⟨rfl, Or.inr ⟨rfl, by rw [h]; exact hc⟩⟩
  refine zk_ite (fun _ => ?_) (fun _ => zk_ite (fun _ => ?_) (fun _ => ?_))
  · exact zk_ite (i _ (by decide)) (fun _ => zk_ite (i _ (by decide)) (fun _ => zk_ite (i _ (by decide)) (fun _ => o)))
  · exact zk_ite (i _ (by decide)) (fun _ => zk_ite (i _ (by decide)) (fun _ => o))
  · exact zk_ite (i _ (by decide)) (fun _ => zk_ite (i _ (by decide)) (fun _ => o))
theorem m_isSign (c : Int32) (σ : zg_S) : zk (f_X7_isSign c σ) (fun r s => σ = s ∧ ((r = 0 ∧ ¬ (σ 0 17 = 3 ∧ σ 0 19 = c)) ∨ (r = 1 ∧ σ 0 17 = 3 ∧ σ 0 19 = c))) := by
  unfold f_X7_isSign
  refine zk_ite (fun h => zk_ite (fun h2 => zk_some ⟨rfl, Or.inr ⟨rfl, h, h2⟩⟩) (fun h2 => zk_some ⟨rfl, Or.inl ⟨rfl, fun z => h2 z.2⟩⟩)) (fun h => zk_some ⟨rfl, Or.inl ⟨rfl, fun z => h z.1⟩⟩)
/-- how many steps are laid, and where -/
def ml (σ : zg_S) : Nat := (σ 0 22).toNatClampNeg
def mb (σ : zg_S) : Nat := (σ 0 23).toNatClampNeg
def sB (σ : zg_S) : Prop := 0 ≤ (σ 0 22).toInt ∧ (σ 0 22).toInt ≤ 96 ∧ 51 ≤ (σ 0 23).toInt ∧ (σ 0 23).toInt ≤ 2847
theorem m_step (a1 a2 : Int32) (σ : zg_S) (hσ : IMc σ) (hb : sB σ) : zk (f_X7_step a1 a2 σ) (fun _ s => IMc s ∧ (∀ p, p ≠ 0 → p ≠ 1 → s p = σ p) ∧ (∀ k, k ≠ 22 → s 0 k = σ 0 k) ∧ s 0 22 = σ 0 22 + 1 ∧ s 1 (mb σ + 2 * ml σ) = a1 ∧ s 1 (mb σ + 2 * ml σ + 1) = a2 ∧ ∀ k, k ≠ mb σ + 2 * ml σ → k ≠ mb σ + 2 * ml σ + 1 → s 1 k = σ 1 k) := by
  obtain ⟨l0, l1, b0, b1⟩ := hb
  have e1 := zt_1
  have e2 := zt_2
  have nl := ztn l0
  have nb := ztn (i := σ 0 23) (by omega)
  unfold f_X7_step
  have p1 := zTadd (zTs (σ 0 23)) (zTmul (zTl zt_2) (zTs (σ 0 22)) (by omega) (by omega)) (by omega) (by omega)
  have i1 : ((σ 0 23) + (2 * (σ 0 22))).toNatClampNeg = mb σ + 2 * ml σ := zTn p1 (by unfold mb ml; omega)
  refine zk_in (zin_mkT p1 (by omega) (by omega)) ?_
  rw [i1]
  refine zk_let (fun s q => ?_)
  have hs : IMc s := by rw [q]; exact IMc.up hσ (zTs _) (mcon1 (by unfold mb ml; omega))
  have s22 : s 0 22 = σ 0 22 := by rw [q]; exact congrFun (zup_ne rfl) 22
  have s23 : s 0 23 = σ 0 23 := by rw [q]; exact congrFun (zup_ne rfl) 23
  rw [s22, s23]
  have p2 := zTadd p1 (zTl zt_1) (by omega) (by omega)
  have i2 : (((σ 0 23) + (2 * (σ 0 22))) + 1).toNatClampNeg = mb σ + 2 * ml σ + 1 := zTn p2 (by unfold mb ml; omega)
  refine zk_in (zin_mkT p2 (by omega) (by omega)) ?_
  rw [i2]
  refine zk_let (fun t q2 => ?_)
  have ht : IMc t := by rw [q2]; exact IMc.up hs (zTs _) (mcon1 (by unfold mb ml; omega))
  have t22 : t 0 22 = σ 0 22 := by rw [q2]; exact (congrFun (zup_ne rfl) 22).trans s22
  rw [t22]
  refine zk_let (fun u q3 => ?_)
  have u1 : u 1 = t 1 := by rw [q3]; exact zup_ne rfl
  refine zk_some ⟨by rw [q3]; exact IMc.up ht (zTs _) trivial, fun p h0 h1 => ?_, fun k hk => ?_, by rw [q3]; exact zgot, ?_, ?_, fun k h1 h2 => ?_⟩
  · rw [q3]
    refine (zg_row_ne h0).trans ?_
    rw [q2]
    refine (zg_row_ne h1).trans ?_
    rw [q]
    exact zg_row_ne h1
  · rw [q3]
    refine (zkeepn hk).trans ?_
    rw [q2]
    refine (congrFun (zup_ne rfl) k).trans ?_
    rw [q]
    exact congrFun (zup_ne rfl) k
  · rw [u1, q2]
    refine (zkeepn (by omega)).trans ?_
    rw [q]
    exact zgot
  · rw [u1, q2]
    exact zgot
  · rw [u1, q2]
    refine (zkeepn h2).trans ?_
    rw [q]
    exact zkeepn h1
theorem dep_s {f : Nat → Int32} {b k n d : Nat} : dep f b k (n + 1) d = if f (b + 2 * k) = 2 then (if f (b + 2 * k + 1) = 33 then (if 1 ≤ d then dep f b (k + 1) n d else none) else if 2 ≤ d then dep f b (k + 1) n (d - 1) else none) else if f (b + 2 * k) = 0 ∨ (0 ≤ (f (b + 2 * k + 1)).toInt ∧ (f (b + 2 * k + 1)).toInt < 128) then dep f b (k + 1) n (d + 1) else none := rfl
theorem dep_add (f : Nat → Int32) (b : Nat) : ∀ (n k m d e : Nat), dep f b k n d = some e → dep f b k (n + m) d = dep f b (k + n) m e := by
  intro n
  induction n with
  | zero =>
    intro k m d e h
    unfold dep at h
    rw [Nat.zero_add, Nat.add_zero]
    injection h with h
    rw [h]
  | succ n ih =>
    intro k m d e h
    rw [show n + 1 + m = (n + m) + 1 by omega, show k + (n + 1) = (k + 1) + n by omega]
    rw [dep_s] at h ⊢
    by_cases c1 : f (b + 2 * k) = 2
    · rw [if_pos c1] at h ⊢
      by_cases c2 : f (b + 2 * k + 1) = 33
      · rw [if_pos c2] at h ⊢
        by_cases c3 : 1 ≤ d
        · rw [if_pos c3] at h ⊢
          exact ih _ _ _ _ h
        · rw [if_neg c3] at h
          cases h
      · rw [if_neg c2] at h ⊢
        by_cases c3 : 2 ≤ d
        · rw [if_pos c3] at h ⊢
          exact ih _ _ _ _ h
        · rw [if_neg c3] at h
          cases h
    · rw [if_neg c1] at h ⊢
      by_cases c2 : f (b + 2 * k) = 0 ∨ (0 ≤ (f (b + 2 * k + 1)).toInt ∧ (f (b + 2 * k + 1)).toInt < 128)
      · rw [if_pos c2] at h ⊢
        exact ih _ _ _ _ h
      · rw [if_neg c2] at h
        cases h
/-- the reader's state between words -/
def PS (σ : zg_S) : Prop := IMc σ ∧ sB σ ∧ (σ 0 15).toInt ≤ (σ 0 16).toInt ∧ (σ 0 16).toInt ≤ (σ 0 14).toInt ∧ (σ 0 17 = 0 ∨ (σ 0 15).toInt < (σ 0 16).toInt) ∧ (σ 0 22).toInt ≤ (σ 0 15).toInt ∧ 0 ≤ (σ 0 20).toInt ∧ (σ 0 20).toInt ≤ 8 ∧ 0 ≤ (σ 0 21).toInt ∧ (σ 0 21).toInt ≤ 8
def mF (σ s : zg_S) : Prop := (∀ p, p ≠ 0 → p ≠ 1 → s p = σ p) ∧ (∀ k, (k < 15 ∨ k = 23 ∨ 24 < k) → s 0 k = σ 0 k) ∧ (∀ k, k < mb σ + 2 * ml σ → s 1 k = σ 1 k)
/-- what any reading leaves, good or not -/
def BD (σ s : zg_S) : Prop := IMc s ∧ mF σ s ∧ (σ 0 22).toInt ≤ (s 0 22).toInt ∧ (s 0 22).toInt ≤ 96 ∧ (s 0 15).toInt ≤ (s 0 14).toInt
/-- what a good one leaves -/
def GD (σ s : zg_S) : Prop := PS s ∧ mF σ s ∧ (σ 0 22).toInt ≤ (s 0 22).toInt ∧ (s 0 22).toInt - (σ 0 22).toInt ≤ (s 0 15).toInt - (σ 0 15).toInt ∧ (σ 0 15).toInt ≤ (s 0 15).toInt ∧ s 0 20 = σ 0 20 ∧ s 0 21 = σ 0 21 ∧ ∀ d, dep (s 1) (mb σ) (ml σ) (ml s - ml σ) d = some (d + 1)
def mQ (σ : zg_S) (r : Int32) (s : zg_S) : Prop := BD σ s ∧ (r = 0 ∨ (r = 1 ∧ GD σ s))
theorem GD.bd {σ s : zg_S} (h : GD σ s) : BD σ s := ⟨h.1.1, h.2.1, h.2.2.1, h.1.2.1.2.1, by have := h.1.2.2.1; have := h.1.2.2.2.1; omega⟩
theorem mb_eq {σ s : zg_S} (h : mF σ s) : mb s = mb σ := congrArg Int32.toNatClampNeg (h.2.1 23 (by decide))
theorem mF.tr {a b c : zg_S} (h1 : mF a b) (h2 : mF b c) (hl : ml a ≤ ml b) : mF a c := ⟨fun p h0 h1' => (h2.1 p h0 h1').trans (h1.1 p h0 h1'), fun k hk => (h2.2.1 k hk).trans (h1.2.1 k hk), fun k hk => (h2.2.2 k (by rw [mb_eq h1]; omega)).trans (h1.2.2 k hk)⟩
theorem ml_le {a b : zg_S} (h0 : 0 ≤ (a 0 22).toInt) (h : (a 0 22).toInt ≤ (b 0 22).toInt) : ml a ≤ ml b := by
  have h1 := ztn h0
  have h2 := ztn (i := b 0 22) (by omega)
  unfold ml
  omega
theorem BD.tr {a b c : zg_S} (h0 : 0 ≤ (a 0 22).toInt) (f : mF a b) (l : (a 0 22).toInt ≤ (b 0 22).toInt) (h : BD b c) : BD a c := ⟨h.1, f.tr h.2.1 (ml_le h0 l), Int.le_trans l h.2.2.1, h.2.2.2.1, h.2.2.2.2⟩
theorem tk.mF {σ s : zg_S} (h : tk σ s) : mF σ s := ⟨fun p h0 _ => h.1 p h0, fun k hk => h.2 k (by omega), fun k _ => congrFun (h.1 1 (by decide)) k⟩
/-- on to the next word -/
theorem nx {σ : zg_S} (h : PS σ) {P : Int32 → zg_S → Prop} {k : Int32 → zg_S → Option (Int32 × zg_S)} (hk : ∀ r s, PS s → tk σ s → NQ σ r s → (σ 0 16).toInt ≤ (s 0 15).toInt → zk (k r s) P) : zk (zbd (f_X7_nextToken σ) k) P := by
  obtain ⟨hσ, hb, h1, h2, h3, h4, h5, h6, h7, h8⟩ := h
  refine zk_call (s_X7_nextToken σ hσ h2) (fun r s hp => ?_)
  obtain ⟨hs, kt, n1, n2, n3, n4, n5⟩ := id hp
  refine hk r s ⟨hs, ?_, n2, by rw [kt.n]; exact n3, ?_, by rw [kt.2 22 (by decide)]; omega, by rw [kt.2 20 (by decide)]; exact h5, by rw [kt.2 20 (by decide)]; exact h6, by rw [kt.2 21 (by decide)]; exact h7, by rw [kt.2 21 (by decide)]; exact h8⟩ kt hp n1
  · unfold sB
    rw [kt.2 22 (by decide), kt.2 23 (by decide)]
    exact hb
  · rcases n5 with ⟨_, n5, _⟩ | ⟨n5, _⟩ | ⟨n5, _⟩ | ⟨n5, _⟩
    · exact Or.inl n5
    · exact Or.inr n5
    · exact Or.inr n5
    · exact Or.inr (by omega)
/-- a step that joins, or one that turns -/
theorem jn {σ s : zg_S} {c : Int32} (l0 : 0 ≤ (σ 0 22).toInt) (hs : PS s) (f : mF σ s) (l1 : (σ 0 22).toInt ≤ (s 0 22).toInt) (l2 : (s 0 22).toInt + 1 - (σ 0 22).toInt ≤ (s 0 15).toInt - (σ 0 15).toInt) (l3 : (σ 0 15).toInt ≤ (s 0 15).toInt) (l4 : (s 0 22).toInt + 1 ≤ (s 0 15).toInt) (k20 : s 0 20 = σ 0 20) (k21 : s 0 21 = σ 0 21) (hd : ∀ d, ∃ e, dep (s 1) (mb σ) (ml σ) (ml s - ml σ) d = some e ∧ ((c = 33 ∧ e = d + 1) ∨ (¬ c = 33 ∧ e = d + 2))) {P : Int32 → zg_S → Prop} {k : Int32 → zg_S → Option (Int32 × zg_S)} (hk : ∀ r t, GD σ t → (t 0 15) = (s 0 15) → zk (k r t) P) : zk (zbd (f_X7_step 2 c s) k) P := by
  obtain ⟨hs, hb, h1, h2, h3, h4, h5, h6, h7, h8⟩ := hs
  have e1 := zt_1
  have f15 : 0 ≤ (s 0 15).toInt ∧ (s 0 15).toInt ≤ 96 := hs 0 15
  obtain ⟨b1, b2, b3, b4⟩ := id hb
  have n1 := ztn l0
  have n2 := ztn b1
  refine zk_call (m_step 2 c s hs hb) (fun r t hp => ?_)
  obtain ⟨ht, p1, p2, p3, p4, p5, p6⟩ := hp
  have ea := zTe (zTadd (zTs (s 0 22)) (zTl zt_1) (by omega) (by omega))
  have t22 : (t 0 22).toInt = (s 0 22).toInt + 1 := by rw [p3]; exact ea
  have n3 := ztn (i := t 0 22) (by omega)
  have k : ∀ j, j ≠ 22 → t 0 j = s 0 j := p2
  have eb := mb_eq f
  have el : ml t = ml s + 1 := by unfold ml; omega
  have el2 : ml σ ≤ ml s := by unfold ml; omega
  have hF : mF s t := ⟨p1, fun j hj => p2 j (by omega), fun j hj => p6 j (by omega) (by omega)⟩
  refine hk r t ⟨⟨ht, ⟨by omega, by omega, by rw [k 23 (by decide)]; exact b3, by rw [k 23 (by decide)]; exact b4⟩, by rw [k 15 (by decide), k 16 (by decide)]; exact h1, by rw [k 16 (by decide), k 14 (by decide)]; exact h2, by rw [k 17 (by decide), k 15 (by decide), k 16 (by decide)]; exact h3, by rw [k 15 (by decide)]; omega, by rw [k 20 (by decide)]; exact h5, by rw [k 20 (by decide)]; exact h6, by rw [k 21 (by decide)]; exact h7, by rw [k 21 (by decide)]; exact h8⟩, f.tr hF el2, by omega, by rw [k 15 (by decide)]; omega, by rw [k 15 (by decide)]; exact l3, (k 20 (by decide)).trans k20, (k 21 (by decide)).trans k21, fun d => ?_⟩ (k 15 (by decide))
  obtain ⟨e, he, hc⟩ := hd d
  have hsame : dep (t 1) (mb σ) (ml σ) (ml s - ml σ) d = some e := (dep_eq _ _ _ (fun j j1 j2 => ⟨p6 _ (by rw [eb]; omega) (by rw [eb]; omega), p6 _ (by rw [eb]; omega) (by rw [eb]; omega)⟩)).trans he
  rw [show ml t - ml σ = (ml s - ml σ) + 1 by omega, dep_add _ _ _ _ _ _ _ hsame, show ml σ + (ml s - ml σ) = ml s by omega]
  rw [eb] at p4 p5
  unfold dep
  rw [p4, p5, if_pos rfl]
  rcases hc with ⟨rfl, rfl⟩ | ⟨hc, rfl⟩
  · rw [if_pos rfl, if_pos (by omega)]
    unfold dep
    rfl
  · rw [if_neg hc, if_pos (by omega)]
    unfold dep
    rfl
/-- a sign, one more piece, and the step that joins -/
theorem join {σ s : zg_S} {c z0 : Int32} {tag : Nat} {rec : Nat → Int32 → zg_S → Option (Int32 × zg_S)} {P : Int32 → zg_S → Prop} {k : Int32 → zg_S → Option (Int32 × zg_S)} (l0 : 0 ≤ (σ 0 22).toInt) (hG : GD σ s) (h3 : s 0 17 = 3) (hc : ¬ c = 33) (ih : ∀ t, PS t → t 0 20 = σ 0 20 → t 0 21 = σ 0 21 → zk (rec tag z0 t) (mQ t)) (h0 : ∀ t, BD σ t → P 0 t) (hk : ∀ r t, GD σ t → (s 0 15).toInt < (t 0 15).toInt → zk (k r t) P) : zk (zbd (f_X7_nextToken s) (fun _ s1 => zbd (rec tag z0 s1) (fun r s2 => if r = 0 then some (0, s2) else zbd (f_X7_step 2 c s2) k))) P := by
  obtain ⟨hs, f, l1, l2, l3, k20, k21, hd⟩ := hG
  refine nx hs (fun _ s1 p1 t1 q1 g1 => ?_)
  have hlt : (s 0 15).toInt < (s 0 16).toInt := hs.2.2.2.2.1.resolve_left (fun z => absurd (h3.symm.trans z) (by decide))
  have e22 : s1 0 22 = s 0 22 := t1.2 22 (by decide)
  have f1 : mF σ s1 := f.tr t1.mF (ml_le l0 l1)
  refine zk_call (ih s1 p1 ((t1.2 20 (by decide)).trans k20) ((t1.2 21 (by decide)).trans k21)) (fun r s2 hp => ?_)
  obtain ⟨hB, hr⟩ := hp
  refine zk_ite (fun _ => zk_some (h0 s2 (BD.tr l0 f1 (by rw [e22]; exact l1) hB))) (fun hn => ?_)
  obtain ⟨-, p2, f2, m1, m2, m3, m20, m21, hd2⟩ := hr.resolve_left hn
  have e1 : ml s1 = ml s := congrArg Int32.toNatClampNeg e22
  have b1 := mb_eq f1
  have g22 := congrArg Int32.toInt e22
  have hs22 := hs.2.2.2.2.2.1
  have l12 := ml_le l0 l1
  have l22 := ml_le (a := s1) (b := s2) (by omega) m1
  refine jn l0 p2 (f1.tr f2 (by rw [e1]; exact l12)) (by omega) (by omega) (by omega) (by omega) (m20.trans ((t1.2 20 (by decide)).trans k20)) (m21.trans ((t1.2 21 (by decide)).trans k21)) (fun d => ⟨d + 2, ?_, Or.inr ⟨hc, rfl⟩⟩) (fun r t hg ht => hk r t hg (by rw [ht]; omega))
  have es1 : s1 1 = s 1 := t1.1 1 (by decide)
  have a1 : dep (s2 1) (mb σ) (ml σ) (ml s - ml σ) d = some (d + 1) := (dep_eq _ _ _ (fun j j1 j2 => ⟨(f2.2.2 _ (by rw [b1, e1]; omega)).trans (congrFun es1 _), (f2.2.2 _ (by rw [b1, e1]; omega)).trans (congrFun es1 _)⟩)).trans (hd d)
  rw [show ml s2 - ml σ = (ml s - ml σ) + (ml s2 - ml s) by omega, dep_add _ _ _ _ _ _ _ a1, show ml σ + (ml s - ml σ) = ml s by omega]
  have a2 := hd2 (d + 1)
  rw [b1, e1] at a2
  exact a2
/-- a leaf -/
theorem lf {σ : zg_S} {w v : Int32} (h : PS σ) (h3 : ¬ σ 0 17 = 0) (hw : w = 0 ∨ (w = 1 ∧ 0 ≤ v.toInt ∧ v.toInt < 128)) {P : Int32 → zg_S → Prop} (hP : ∀ s, GD σ s → P 1 s) : zk (zbd (f_X7_step w v σ) (fun _ s => zlet (zg_up s 0 24 ((s 0 24) + 1)) (fun t => zbd (f_X7_nextToken t) (fun _ u => some (1, u))))) P := by
  obtain ⟨hσ, hb, h1, h2, h3', h4, h5, h6, h7, h8⟩ := h
  have e1 := zt_1
  have f15 : 0 ≤ (σ 0 15).toInt ∧ (σ 0 15).toInt ≤ 96 := hσ 0 15
  have f14 : 0 ≤ (σ 0 14).toInt ∧ (σ 0 14).toInt ≤ 96 := hσ 0 14
  have hlt := h3'.resolve_left h3
  obtain ⟨b1, b2, b3, b4⟩ := id hb
  have n1 := ztn b1
  refine zk_call (m_step w v σ hσ hb) (fun _ s hp => ?_)
  obtain ⟨hs, p1, p2, p3, p4, p5, p6⟩ := hp
  refine zk_let (fun t q => ?_)
  have ht : IMc t := by rw [q]; exact IMc.up hs (zTs _) trivial
  have kt : ∀ j, j ≠ 22 → j ≠ 24 → t 0 j = σ 0 j := fun j j1 j2 => by
    rw [q]
    exact (zkeepn j2).trans (p2 j j1)
  have rt : ∀ p, p ≠ 0 → t p = s p := fun p hp => by
    rw [q]
    exact zg_row_ne hp
  have t22e : t 0 22 = σ 0 22 + 1 := by rw [q]; exact (zkeepf rfl).trans p3
  have ea := zTe (zTadd (zTs (σ 0 22)) (zTl zt_1) (by omega) (by omega))
  have t22 : (t 0 22).toInt = (σ 0 22).toInt + 1 := by rw [t22e]; exact ea
  have n2 := ztn (i := t 0 22) (by omega)
  have t16 : (t 0 16).toInt ≤ (t 0 14).toInt := by rw [kt 16 (by decide) (by decide), kt 14 (by decide) (by decide)]; exact h2
  refine zk_call (s_X7_nextToken t ht t16) (fun r u hp => ?_)
  obtain ⟨hu, ku, n1', n2', n3', n4', n5'⟩ := hp
  rw [kt 16 (by decide) (by decide)] at n1'
  have u22 : u 0 22 = t 0 22 := ku.2 22 (by decide)
  have g22 := congrArg Int32.toInt u22
  have u23 : u 0 23 = σ 0 23 := (ku.2 23 (by decide)).trans (kt 23 (by decide) (by decide))
  have u20 : u 0 20 = σ 0 20 := (ku.2 20 (by decide)).trans (kt 20 (by decide) (by decide))
  have u21 : u 0 21 = σ 0 21 := (ku.2 21 (by decide)).trans (kt 21 (by decide) (by decide))
  have ur : u 1 = s 1 := (ku.1 1 (by decide)).trans (rt 1 (by decide))
  have el : ml u = ml σ + 1 := by unfold ml; rw [u22]; omega
  refine zk_some (hP u ⟨⟨hu, ⟨by omega, by omega, by rw [u23]; exact b3, by rw [u23]; exact b4⟩, n2', by rw [ku.n]; exact n3', ?_, by omega, by rw [u20]; exact h5, by rw [u20]; exact h6, by rw [u21]; exact h7, by rw [u21]; exact h8⟩, ⟨fun p j0 j1 => (ku.1 p j0).trans ((rt p j0).trans (p1 p j0 j1)), fun j hj => (ku.2 j (by omega)).trans (kt j (by omega) (by omega)), fun j hj => (congrFun ur j).trans (p6 j (by omega) (by omega))⟩, by omega, by omega, by omega, u20, u21, fun d => ?_⟩)
  · rcases n5' with ⟨_, n5, _⟩ | ⟨n5, _⟩ | ⟨n5, _⟩ | ⟨n5, _⟩
    · exact Or.inl n5
    · exact Or.inr n5
    · exact Or.inr n5
    · exact Or.inr (by omega)
  · rw [el, show ml σ + 1 - ml σ = 1 by omega, ur]
    unfold dep
    rw [p4, p5]
    rcases hw with rfl | ⟨rfl, hv⟩
    · rw [if_neg (by decide), if_pos (Or.inl rfl)]
      unfold dep
      rfl
    · rw [if_neg (by decide), if_pos (Or.inr hv)]
      unfold dep
      rfl
def mN (σ : zg_S) : Int := 8 * (8 - (σ 0 20).toInt) + 2 * (8 - (σ 0 21).toInt)
theorem mN_eq {σ s : zg_S} (h6 : s 0 20 = σ 0 20) (h7 : s 0 21 = σ 0 21) : mN s = mN σ := by unfold mN; rw [h6, h7]
theorem PS.n {σ : zg_S} (h : PS σ) : 0 ≤ mN σ := by
  obtain ⟨_, _, _, _, _, _, h5, h6, h7, h8⟩ := h
  unfold mN
  omega
end
section
theorem PS.u {s t : zg_S} {v : Int32} {k : Nat} (h : PS s) (q : t = zg_up s 0 k v) (hk : k = 20 ∨ k = 21) (h0 : 0 ≤ v.toInt) (h8 : v.toInt ≤ 8) : PS t := by
  obtain ⟨hσ, hb, h1, h2, h3, h4, h5, h6, h7, h8'⟩ := h
  have kk : ∀ j, j ≠ k → t 0 j = s 0 j := fun j hj => by rw [q]; exact zkeepn hj
  have g : t 0 k = v := by rw [q]; exact zgot
  have hi : IMc t := by
    rw [q]
    rcases hk with rfl | rfl
    · exact IMc.up hσ (zTs _) trivial
    · exact IMc.up hσ (zTs _) trivial
  refine ⟨hi, ?_, ?_, ?_, ?_, ?_, ?_, ?_, ?_, ?_⟩
  · unfold sB
    rw [kk 22 (by omega), kk 23 (by omega)]
    exact hb
  · rw [kk 15 (by omega), kk 16 (by omega)]
    exact h1
  · rw [kk 16 (by omega), kk 14 (by omega)]
    exact h2
  · rw [kk 17 (by omega), kk 15 (by omega), kk 16 (by omega)]
    exact h3
  · rw [kk 22 (by omega), kk 15 (by omega)]
    exact h4
  · rcases hk with rfl | rfl
    · rw [g]; exact h0
    · rw [kk 20 (by omega)]; exact h5
  · rcases hk with rfl | rfl
    · rw [g]; exact h8
    · rw [kk 20 (by omega)]; exact h6
  · rcases hk with rfl | rfl
    · rw [kk 21 (by omega)]; exact h7
    · rw [g]; exact h0
  · rcases hk with rfl | rfl
    · rw [kk 21 (by omega)]; exact h8'
    · rw [g]; exact h8
theorem mF.u {s t : zg_S} {v : Int32} {k : Nat} (q : t = zg_up s 0 k v) (hk : k = 20 ∨ k = 21) : mF s t := ⟨fun p h0 _ => by rw [q]; exact zg_row_ne h0, fun j hj => by rw [q]; exact zkeepn (by omega), fun j _ => by rw [q]; exact congrFun (zg_row_ne (by decide)) j⟩
theorem mp_bracket (d : Nat) (z0 : Int32) (σ : zg_S) (hp : PS σ) (hd : mN σ ≤ d) (ih : ∀ s, PS s → 6 + mN s ≤ d → zk (G_mp d 0 z0 s) (mQ s)) : zk (B_X7_part0_145 (G_mp d) z0 σ) (mQ σ) := by
  have e1 := zt_1
  have l0 := hp.2.1.1
  have hlo : BD σ σ := ⟨hp.1, ⟨fun _ _ _ => rfl, fun _ _ => rfl, fun _ _ => rfl⟩, Int.le_refl _, hp.2.1.2.1, by have := hp.2.2.1; have := hp.2.2.2.1; omega⟩
  unfold B_X7_part0_145
  refine zk_call (m_isSign 40 σ) (fun r s hq => ?_)
  obtain ⟨rfl, hs⟩ := hq
  refine zk_ite (fun _ => zk_some ⟨hlo, Or.inl rfl⟩) (fun h1 => ?_)
  obtain ⟨-, h3, -⟩ := hs.resolve_left (fun z => h1 z.1)
  refine zk_ite (fun _ => zk_some ⟨hlo, Or.inl rfl⟩) (fun h8 => ?_)
  obtain ⟨_, _, b1, b2, b3, b4, b5, b6, b7, b8⟩ := id hp
  have h8' := zne h8
  have e8 := zt_8
  have hlt := b3.resolve_left (fun z => absurd (h3.symm.trans z) (by decide))
  have ea := zTe (zTadd (zTs (σ 0 20)) (zTl zt_1) (by omega) (by omega))
  refine zk_let (fun s1 q1 => ?_)
  have p1 : PS s1 := hp.u q1 (Or.inl rfl) (by rw [ea]; omega) (by rw [ea]; omega)
  have f1 : mF σ s1 := mF.u q1 (Or.inl rfl)
  have k20 : s1 0 20 = σ 0 20 + 1 := by rw [q1]; exact zgot
  have kk : ∀ j, j ≠ 20 → s1 0 j = σ 0 j := fun j hj => by rw [q1]; exact zkeepn hj
  have r1 : s1 1 = σ 1 := by rw [q1]; exact zup_ne rfl
  refine nx p1 (fun _ s2 p2 t2 _ g2 => ?_)
  have m1 : ml s1 = ml σ := congrArg Int32.toNatClampNeg (kk 22 (by decide))
  have m2 : ml s2 = ml σ := (congrArg Int32.toNatClampNeg (t2.2 22 (by decide))).trans m1
  have f2 : mF σ s2 := f1.tr t2.mF (by rw [m1]; exact Nat.le_refl _)
  have k22 : s2 0 22 = σ 0 22 := (t2.2 22 (by decide)).trans (kk 22 (by decide))
  have n2 : mN s2 = mN σ - 8 := by
    unfold mN
    rw [t2.2 20 (by decide), t2.2 21 (by decide), k20, kk 21 (by decide), ea]
    omega
  rw [kk 16 (by decide)] at g2
  refine zk_call (ih s2 p2 (by omega)) (fun r3 s3 hq => ?_)
  obtain ⟨hB, hr⟩ := hq
  have hB3 : BD σ s3 := BD.tr l0 f2 (by rw [k22]; exact Int.le_refl _) hB
  refine zk_ite (fun _ => zk_some ⟨hB3, Or.inl rfl⟩) (fun hn => ?_)
  obtain ⟨-, p3, f3, c1, c2, c3, c20, c21, hd3⟩ := hr.resolve_left hn
  refine zk_call (m_isSign 41 s3) (fun r4 s4 hq => ?_)
  obtain ⟨rfl, hs4⟩ := hq
  refine zk_ite (fun _ => zk_some ⟨hB3, Or.inl rfl⟩) (fun h4 => ?_)
  refine zk_let (fun s5 q5 => ?_)
  have e20 : s3 0 20 = σ 0 20 + 1 := c20.trans ((t2.2 20 (by decide)).trans k20)
  have ev : s3 0 20 - 1 = σ 0 20 := by rw [e20]; exact Int32.add_sub_cancel _ _
  have p5 : PS s5 := p3.u q5 (Or.inl rfl) (by rw [ev]; exact b5) (by rw [ev]; exact b6)
  have f5 : mF s3 s5 := mF.u q5 (Or.inl rfl)
  have k5 : ∀ j, j ≠ 20 → s5 0 j = s3 0 j := fun j hj => by rw [q5]; exact zkeepn hj
  have k520 : s5 0 20 = σ 0 20 := by rw [q5]; exact zgot.trans ev
  have r5 : s5 1 = s3 1 := by rw [q5]; exact zup_ne rfl
  have f23 : mF σ s3 := f2.tr f3 (by rw [m2]; exact Nat.le_refl _)
  have g22 := congrArg Int32.toInt k22
  have l23 : ml σ ≤ ml s3 := ml_le l0 (by omega)
  have f25 : mF σ s5 := f23.tr f5 l23
  have m5 : ml s5 = ml s3 := congrArg Int32.toNatClampNeg (k5 22 (by decide))
  have h522 := congrArg Int32.toInt (k5 22 (by decide))
  have h515 := congrArg Int32.toInt (k5 15 (by decide))
  have h516 := congrArg Int32.toInt (k5 16 (by decide))
  refine nx p5 (fun _ s6 p6 t6 _ g6 => ?_)
  have k622 := congrArg Int32.toInt (t6.2 22 (by decide))
  have m6 : ml s6 = ml s3 := (congrArg Int32.toNatClampNeg (t6.2 22 (by decide))).trans m5
  have q3 := p3.2.2.1
  have hG : GD σ s6 := by
    refine ⟨p6, f25.tr t6.mF (by rw [m5]; exact l23), by omega, by omega, by omega, (t6.2 20 (by decide)).trans k520, (t6.2 21 (by decide)).trans ((k5 21 (by decide)).trans (c21.trans ((t2.2 21 (by decide)).trans (kk 21 (by decide))))), fun dd => ?_⟩
    have a := hd3 dd
    rw [m2, mb_eq f2] at a
    rw [m6, t6.1 1 (by decide), r5]
    exact a
  exact zk_some ⟨hG.bd, Or.inr ⟨rfl, hG⟩⟩
theorem mp_not (d : Nat) (z0 : Int32) (σ : zg_S) (hp : PS σ) (hd : mN σ ≤ d) (ih0 : ∀ s, PS s → 6 + mN s ≤ d → zk (G_mp d 0 z0 s) (mQ s)) (ih5 : ∀ s, PS s → 1 + mN s ≤ d → zk (G_mp d 5 z0 s) (mQ s)) : zk (B_X7_part0_84 (G_mp d) z0 σ) (mQ σ) := by
  have e1 := zt_1
  have e8 := zt_8
  have l0 := hp.2.1.1
  unfold B_X7_part0_84
  refine zk_call (m_isSign 33 σ) (fun r s hq => ?_)
  obtain ⟨rfl, hs⟩ := hq
  refine zk_ite (fun _ => mp_bracket d z0 σ hp hd ih0) (fun h1 => ?_)
  obtain ⟨-, h3, -⟩ := hs.resolve_left (fun z => h1 z.1)
  refine zk_ite (fun _ => mp_bracket d z0 σ hp hd ih0) (fun h8 => ?_)
  obtain ⟨_, _, b1, b2, b3, b4, b5, b6, b7, b8⟩ := id hp
  have h8' := znle h8
  have hlt := b3.resolve_left (fun z => absurd (h3.symm.trans z) (by decide))
  have ea := zTe (zTadd (zTs (σ 0 21)) (zTl zt_1) (by omega) (by omega))
  refine zk_let (fun s1 q1 => ?_)
  have p1 : PS s1 := hp.u q1 (Or.inr rfl) (by rw [ea]; omega) (by rw [ea]; omega)
  have f1 : mF σ s1 := mF.u q1 (Or.inr rfl)
  have k21 : s1 0 21 = σ 0 21 + 1 := by rw [q1]; exact zgot
  have kk : ∀ j, j ≠ 21 → s1 0 j = σ 0 j := fun j hj => by rw [q1]; exact zkeepn hj
  refine nx p1 (fun _ s2 p2 t2 _ g2 => ?_)
  have m1 : ml s1 = ml σ := congrArg Int32.toNatClampNeg (kk 22 (by decide))
  have m2 : ml s2 = ml σ := (congrArg Int32.toNatClampNeg (t2.2 22 (by decide))).trans m1
  have f2 : mF σ s2 := f1.tr t2.mF (by rw [m1]; exact Nat.le_refl _)
  have k22 : s2 0 22 = σ 0 22 := (t2.2 22 (by decide)).trans (kk 22 (by decide))
  have n2 : mN s2 = mN σ - 2 := by
    unfold mN
    rw [t2.2 20 (by decide), t2.2 21 (by decide), k21, kk 20 (by decide), ea]
    omega
  rw [kk 16 (by decide)] at g2
  refine zk_call (ih5 s2 p2 (by omega)) (fun r3 s3 hq => ?_)
  obtain ⟨hB, hr⟩ := hq
  have hB3 : BD σ s3 := BD.tr l0 f2 (by rw [k22]; exact Int.le_refl _) hB
  refine zk_ite (fun _ => zk_some ⟨hB3, Or.inl rfl⟩) (fun hn => ?_)
  obtain ⟨-, p3, f3, c1, c2, c3, c20, c21, hd3⟩ := hr.resolve_left hn
  refine zk_let (fun s5 q5 => ?_)
  have e21 : s3 0 21 = σ 0 21 + 1 := c21.trans ((t2.2 21 (by decide)).trans k21)
  have ev : s3 0 21 - 1 = σ 0 21 := by rw [e21]; exact Int32.add_sub_cancel _ _
  have p5 : PS s5 := p3.u q5 (Or.inr rfl) (by rw [ev]; exact b7) (by rw [ev]; exact b8)
  have f5 : mF s3 s5 := mF.u q5 (Or.inr rfl)
  have k5 : ∀ j, j ≠ 21 → s5 0 j = s3 0 j := fun j hj => by rw [q5]; exact zkeepn hj
  have k521 : s5 0 21 = σ 0 21 := by rw [q5]; exact zgot.trans ev
  have r5 : s5 1 = s3 1 := by rw [q5]; exact zup_ne rfl
  have f23 : mF σ s3 := f2.tr f3 (by rw [m2]; exact Nat.le_refl _)
  have g22 := congrArg Int32.toInt k22
  have l23 : ml σ ≤ ml s3 := ml_le l0 (by omega)
  have f25 : mF σ s5 := f23.tr f5 l23
  have m5 : ml s5 = ml s3 := congrArg Int32.toNatClampNeg (k5 22 (by decide))
  have h522 := congrArg Int32.toInt (k5 22 (by decide))
  have h515 := congrArg Int32.toInt (k5 15 (by decide))
  have k520 : s5 0 20 = σ 0 20 := (k5 20 (by decide)).trans (c20.trans ((t2.2 20 (by decide)).trans (kk 20 (by decide))))
  refine jn l0 p5 f25 (by omega) (by omega) (by omega) (by omega) k520 k521 (fun dd => ⟨dd + 1, ?_, Or.inl ⟨rfl, rfl⟩⟩) (fun r t hg _ => zk_some ⟨hg.bd, Or.inr ⟨rfl, hg⟩⟩)
  have a := hd3 dd
  rw [m2, mb_eq f2] at a
  rw [m5, r5]
  exact a
theorem s_G_mp : ∀ (d tag : Nat) (z0 : Int32) (σ : zg_S), tag ≤ 5 → PS σ → 6 - (tag : Int) + mN σ ≤ d → zk (G_mp d tag z0 σ) (mQ σ) := by
  intro d
  induction d with
  | zero => intro tag z0 σ ht hp hd; have := hp.n; omega
  | succ d ih =>
    intro tag z0 σ ht hp hd
    have l0 := hp.2.1.1
    match tag, ht, hd with
    | 0, _, hd =>
      show zk (f_X7_either (G_mp d) z0 σ) (mQ σ)
      unfold f_X7_either
      refine zk_call (ih 1 z0 σ (by decide) hp (by omega)) (fun r s hq => ?_)
      obtain ⟨hB, hr⟩ := hq
      refine zk_ite (fun _ => zk_some ⟨hB, Or.inl rfl⟩) (fun hn => ?_)
      have hG := (hr.resolve_left hn).2
      have f15 : 0 ≤ (s 0 15).toInt ∧ (s 0 15).toInt ≤ 96 := hG.1.1 0 15
      unfold L_X7_either_10
      refine zl_0 (fun t => GD σ t) (fun t => (97 - (t 0 15).toInt).toNat) ?_ zfu s hG (by unfold zfu; show (97 - (s 0 15).toInt).toNat < 100000; omega)
      intro rec t hT ihl
      have f15 : 0 ≤ (t 0 15).toInt ∧ (t 0 15).toInt ≤ 96 := hT.1.1 0 15
      unfold B_X7_either_10
      refine zk_call (m_isSign 124 t) (fun r1 t1 hq => ?_)
      obtain ⟨rfl, hs⟩ := hq
      refine zk_ite (fun _ => zk_some ⟨hT.bd, Or.inr ⟨rfl, hT⟩⟩) (fun h1 => ?_)
      obtain ⟨-, h3, -⟩ := hs.resolve_left (fun z => h1 z.1)
      exact join l0 hT h3 (by decide) (fun u pu k20 k21 => ih 1 z0 u (by decide) pu (by rw [mN_eq k20 k21]; omega)) (fun u hu => ⟨hu, Or.inl rfl⟩) (fun r u hG hlt => ihl u hG (by show (97 - (u 0 15).toInt).toNat < (97 - (t 0 15).toInt).toNat; omega))
    | 1, _, hd =>
      show zk (f_X7_both (G_mp d) z0 σ) (mQ σ)
      unfold f_X7_both
      refine zk_call (ih 2 z0 σ (by decide) hp (by omega)) (fun r s hq => ?_)
      obtain ⟨hB, hr⟩ := hq
      refine zk_ite (fun _ => zk_some ⟨hB, Or.inl rfl⟩) (fun hn => ?_)
      have hG := (hr.resolve_left hn).2
      have f15 : 0 ≤ (s 0 15).toInt ∧ (s 0 15).toInt ≤ 96 := hG.1.1 0 15
      unfold L_X7_both_10
      refine zl_0 (fun t => GD σ t) (fun t => (97 - (t 0 15).toInt).toNat) ?_ zfu s hG (by unfold zfu; show (97 - (s 0 15).toInt).toNat < 100000; omega)
      intro rec t hT ihl
      have f15 : 0 ≤ (t 0 15).toInt ∧ (t 0 15).toInt ≤ 96 := hT.1.1 0 15
      unfold B_X7_both_10
      refine zk_call (m_isSign 38 t) (fun r1 t1 hq => ?_)
      obtain ⟨rfl, hs⟩ := hq
      refine zk_ite (fun _ => zk_some ⟨hT.bd, Or.inr ⟨rfl, hT⟩⟩) (fun h1 => ?_)
      obtain ⟨-, h3, -⟩ := hs.resolve_left (fun z => h1 z.1)
      exact join l0 hT h3 (by decide) (fun u pu k20 k21 => ih 2 z0 u (by decide) pu (by rw [mN_eq k20 k21]; omega)) (fun u hu => ⟨hu, Or.inl rfl⟩) (fun r u hG hlt => ihl u hG (by show (97 - (u 0 15).toInt).toNat < (97 - (t 0 15).toInt).toNat; omega))
    | 2, _, hd =>
      show zk (f_X7_test (G_mp d) z0 σ) (mQ σ)
      unfold f_X7_test
      refine zk_call (ih 3 z0 σ (by decide) hp (by omega)) (fun r s hq => ?_)
      obtain ⟨hB, hr⟩ := hq
      refine zk_ite (fun _ => zk_some ⟨hB, Or.inl rfl⟩) (fun hn => ?_)
      have hG := (hr.resolve_left hn).2
      have hj : s 0 17 = 3 → ¬ s 0 19 = 33 → zk (B_X7_test_37 (G_mp d) z0 s) (mQ σ) := fun h3 hc => by
        unfold B_X7_test_37
        exact join l0 hG h3 hc (fun u pu k20 k21 => ih 3 z0 u (by decide) pu (by rw [mN_eq k20 k21]; omega)) (fun u hu => ⟨hu, Or.inl rfl⟩) (fun r u hG hlt => zk_some ⟨hG.bd, Or.inr ⟨rfl, hG⟩⟩)
      refine zk_call (m_isSign 60 s) (fun r1 t1 hq => ?_)
      obtain ⟨rfl, hs⟩ := hq
      refine zk_ite (fun _ => ?_) (fun h1 => ?_)
      · refine zk_call (m_isSign 61 s) (fun r1 t1 hq => ?_)
        obtain ⟨rfl, hs⟩ := hq
        refine zk_ite (fun _ => ?_) (fun h1 => ?_)
        · refine zk_call (m_isSign 62 s) (fun r1 t1 hq => ?_)
          obtain ⟨rfl, hs⟩ := hq
          refine zk_ite (fun _ => zk_some ⟨hG.bd, Or.inr ⟨rfl, hG⟩⟩) (fun h1 => ?_)
          obtain ⟨-, h3, h4⟩ := hs.resolve_left (fun z => h1 z.1)
          exact hj h3 (by rw [h4]; decide)
        · obtain ⟨-, h3, h4⟩ := hs.resolve_left (fun z => h1 z.1)
          exact hj h3 (by rw [h4]; decide)
      · obtain ⟨-, h3, h4⟩ := hs.resolve_left (fun z => h1 z.1)
        exact hj h3 (by rw [h4]; decide)
    | 3, _, hd =>
      show zk (f_X7_sum (G_mp d) z0 σ) (mQ σ)
      unfold f_X7_sum
      refine zk_call (ih 4 z0 σ (by decide) hp (by omega)) (fun r s hq => ?_)
      obtain ⟨hB, hr⟩ := hq
      refine zk_ite (fun _ => zk_some ⟨hB, Or.inl rfl⟩) (fun hn => ?_)
      have hG := (hr.resolve_left hn).2
      have f15 : 0 ≤ (s 0 15).toInt ∧ (s 0 15).toInt ≤ 96 := hG.1.1 0 15
      unfold L_X7_sum_10
      refine zl_0 (fun t => GD σ t) (fun t => (97 - (t 0 15).toInt).toNat) ?_ zfu s hG (by unfold zfu; show (97 - (s 0 15).toInt).toNat < 100000; omega)
      intro rec t hT ihl
      have f15 : 0 ≤ (t 0 15).toInt ∧ (t 0 15).toInt ≤ 96 := hT.1.1 0 15
      have hj : t 0 17 = 3 → ¬ t 0 19 = 33 → zk (B_X7_sum_28 (G_mp d) z0 rec t) (mQ σ) := fun h3 hc => by
        unfold B_X7_sum_28
        exact join l0 hT h3 hc (fun u pu k20 k21 => ih 4 z0 u (by decide) pu (by rw [mN_eq k20 k21]; omega)) (fun u hu => ⟨hu, Or.inl rfl⟩) (fun r u hG hlt => ihl u hG (by show (97 - (u 0 15).toInt).toNat < (97 - (t 0 15).toInt).toNat; omega))
      unfold B_X7_sum_10
      refine zk_call (m_isSign 43 t) (fun r1 t1 hq => ?_)
      obtain ⟨rfl, hs⟩ := hq
      refine zk_ite (fun _ => ?_) (fun h1 => ?_)
      · refine zk_call (m_isSign 45 t) (fun r1 t1 hq => ?_)
        obtain ⟨rfl, hs⟩ := hq
        refine zk_ite (fun _ => zk_some ⟨hT.bd, Or.inr ⟨rfl, hT⟩⟩) (fun h1 => ?_)
        obtain ⟨-, h3, h4⟩ := hs.resolve_left (fun z => h1 z.1)
        exact hj h3 (by rw [h4]; decide)
      · obtain ⟨-, h3, h4⟩ := hs.resolve_left (fun z => h1 z.1)
        exact hj h3 (by rw [h4]; decide)
    | 4, _, hd =>
      show zk (f_X7_term (G_mp d) z0 σ) (mQ σ)
      unfold f_X7_term
      refine zk_call (ih 5 z0 σ (by decide) hp (by omega)) (fun r s hq => ?_)
      obtain ⟨hB, hr⟩ := hq
      refine zk_ite (fun _ => zk_some ⟨hB, Or.inl rfl⟩) (fun hn => ?_)
      have hG := (hr.resolve_left hn).2
      have f15 : 0 ≤ (s 0 15).toInt ∧ (s 0 15).toInt ≤ 96 := hG.1.1 0 15
      unfold L_X7_term_10
      refine zl_0 (fun t => GD σ t) (fun t => (97 - (t 0 15).toInt).toNat) ?_ zfu s hG (by unfold zfu; show (97 - (s 0 15).toInt).toNat < 100000; omega)
      intro rec t hT ihl
      have f15 : 0 ≤ (t 0 15).toInt ∧ (t 0 15).toInt ≤ 96 := hT.1.1 0 15
      have hj : t 0 17 = 3 → ¬ t 0 19 = 33 → zk (B_X7_term_28 (G_mp d) z0 rec t) (mQ σ) := fun h3 hc => by
        unfold B_X7_term_28
        exact join l0 hT h3 hc (fun u pu k20 k21 => ih 5 z0 u (by decide) pu (by rw [mN_eq k20 k21]; omega)) (fun u hu => ⟨hu, Or.inl rfl⟩) (fun r u hG hlt => ihl u hG (by show (97 - (u 0 15).toInt).toNat < (97 - (t 0 15).toInt).toNat; omega))
      unfold B_X7_term_10
      refine zk_call (m_isSign 42 t) (fun r1 t1 hq => ?_)
      obtain ⟨rfl, hs⟩ := hq
      refine zk_ite (fun _ => ?_) (fun h1 => ?_)
      · refine zk_call (m_isSign 47 t) (fun r1 t1 hq => ?_)
        obtain ⟨rfl, hs⟩ := hq
        refine zk_ite (fun _ => zk_some ⟨hT.bd, Or.inr ⟨rfl, hT⟩⟩) (fun h1 => ?_)
        obtain ⟨-, h3, h4⟩ := hs.resolve_left (fun z => h1 z.1)
        exact hj h3 (by rw [h4]; decide)
      · obtain ⟨-, h3, h4⟩ := hs.resolve_left (fun z => h1 z.1)
        exact hj h3 (by rw [h4]; decide)
    | 5, _, hd =>
      show zk (f_X7_part0 (G_mp d) z0 σ) (mQ σ)
      have hN : zk (B_X7_part0_84 (G_mp d) z0 σ) (mQ σ) := mp_not d z0 σ hp (by omega) (fun s ps hs => ih 0 z0 s (by decide) ps (by omega)) (fun s ps hs => ih 5 z0 s (by decide) ps (by omega))
      unfold f_X7_part0
      refine zk_ite (fun h2 => ?_) (fun _ => ?_)
      · exact lf hp (by rw [h2]; decide) (Or.inl rfl) (fun s hG => ⟨hG.bd, Or.inr ⟨rfl, hG⟩⟩)
      · refine zk_ite (fun h1 => ?_) (fun _ => hN)
        refine zk_ite (fun _ => hN) (fun _ => ?_)
        refine zk_call (m_isName z0 (σ 0 19) σ) (fun r s hq => ?_)
        obtain ⟨rfl, hr⟩ := hq
        refine zk_ite (fun _ => hN) (fun hn => ?_)
        exact lf hp (by rw [h1]; decide) (Or.inr ⟨rfl, (hr.resolve_left hn).2⟩) (fun s hG => ⟨hG.bd, Or.inr ⟨rfl, hG⟩⟩)
end
section
/-- where the steps of a text that is read come to lie -/
def bb (σ : zg_S) : Nat := if (σ 1 1).toInt < 14 then 51 + 200 * (σ 1 1).toNatClampNeg else 2847
def pQ (σ : zg_S) (r : Int32) (s : zg_S) : Prop := IMc s ∧ (∀ p, p ≠ 0 → p ≠ 1 → s p = σ p) ∧ (∀ k, (k < 14 ∨ 24 < k) → s 0 k = σ 0 k) ∧ (∀ k, k < bb σ → s 1 k = σ 1 k) ∧ (r = -1 ∨ ((r = 0 ∨ r = 1 ∨ r = 2) ∧ 0 ≤ (s 0 22).toInt ∧ (s 0 22).toInt ≤ 96 ∧ dep (s 1) (bb σ) 0 (ml s) 0 = some 1))
theorem ps111 (x1 x2 : Int32) (σ s : zg_S) (hs : IMc s) (h1 : ∀ p, p ≠ 0 → p ≠ 1 → s p = σ p) (h2 : ∀ k, (k < 14 ∨ 24 < k) → s 0 k = σ 0 k) (h3 : ∀ k, k < bb σ → s 1 k = σ 1 k) (h4 : x2 = 0 ∨ ((x1 = 0 ∨ x1 = 1 ∨ x1 = 2) ∧ 0 ≤ (s 0 22).toInt ∧ (s 0 22).toInt ≤ 96 ∧ dep (s 1) (bb σ) 0 (ml s) 0 = some 1)) : zk (B_X7_parse_111 x1 x2 s) (pQ σ) := by
  have e0 := zt_0
  unfold B_X7_parse_111
  refine zk_let (fun t q => ?_)
  have ht : IMc t := by rw [q]; exact IMc.up hs (zTl zt_0) ⟨by omega, by omega⟩
  have k1 : ∀ p, p ≠ 0 → t p = s p := fun p hp => by rw [q]; exact zg_row_ne hp
  have k2 : ∀ k, k ≠ 14 → t 0 k = s 0 k := fun k hk => by rw [q]; exact zkeepn hk
  have c1 : ∀ p, p ≠ 0 → p ≠ 1 → t p = σ p := fun p a b => (k1 p a).trans (h1 p a b)
  have c2 : ∀ k, (k < 14 ∨ 24 < k) → t 0 k = σ 0 k := fun k hk => (k2 k (by omega)).trans (h2 k hk)
  have c3 : ∀ k, k < bb σ → t 1 k = σ 1 k := fun k hk => (congrFun (k1 1 (by decide)) k).trans (h3 k hk)
  refine zk_ite (fun _ => zk_some ⟨ht, c1, c2, c3, Or.inl rfl⟩) (fun hn => ?_)
  refine zk_some ⟨ht, c1, c2, c3, Or.inr ?_⟩
  have h := h4.resolve_left hn
  have e : ml t = ml s := congrArg Int32.toNatClampNeg (k2 22 (by decide))
  rw [k2 22 (by decide), e, k1 1 (by decide)]
  exact h
theorem ps60 (y0 : Int32) (σ s : zg_S) (hs : IMc s) (h1 : ∀ p, p ≠ 0 → s p = σ p) (h2 : ∀ k, (k < 15 ∨ 24 < k) → s 0 k = σ 0 k) (k16 : s 0 16 = 0) (k17 : s 0 17 = 3) (k20 : s 0 20 = 0) (k21 : s 0 21 = 0) (k22 : s 0 22 = 0) (hy : y0.toNatClampNeg = bb σ) (y1 : 51 ≤ y0.toInt) (y2 : y0.toInt ≤ 2847) : zk (B_X7_parse_60 y0 s) (pQ σ) := by
  have e0 := zt_0
  have f14 : 0 ≤ (s 0 14).toInt ∧ (s 0 14).toInt ≤ 96 := hs 0 14
  unfold B_X7_parse_60
  refine zk_let (fun t q => ?_)
  have ht : IMc t := by rw [q]; exact IMc.up hs (zTs _) trivial
  have kk : ∀ j, j ≠ 23 → t 0 j = s 0 j := fun j hj => by rw [q]; exact zkeepn hj
  have k1 : ∀ p, p ≠ 0 → t p = s p := fun p hp => by rw [q]; exact zg_row_ne hp
  have k23 : t 0 23 = y0 := by rw [q]; exact zgot
  refine zk_call (s_X7_nextToken t ht (by rw [kk 16 (by decide), kk 14 (by decide), k16]; omega)) (fun r u hp => ?_)
  obtain ⟨hu, ku, n1, n2, n3, n4, n5⟩ := hp
  have g1 : ∀ p, p ≠ 0 → u p = σ p := fun p hp => (ku.1 p hp).trans ((k1 p hp).trans (h1 p hp))
  have g2 : ∀ k, (k < 15 ∨ 24 < k) → u 0 k = σ 0 k := fun k hk => (ku.2 k (by omega)).trans ((kk k (by omega)).trans (h2 k hk))
  have u20 : u 0 20 = 0 := (ku.2 20 (by decide)).trans ((kk 20 (by decide)).trans k20)
  have u21 : u 0 21 = 0 := (ku.2 21 (by decide)).trans ((kk 21 (by decide)).trans k21)
  have u22 : u 0 22 = 0 := (ku.2 22 (by decide)).trans ((kk 22 (by decide)).trans k22)
  have u23 : u 0 23 = y0 := (ku.2 23 (by decide)).trans k23
  have f15 : 0 ≤ (u 0 15).toInt ∧ (u 0 15).toInt ≤ 96 := hu 0 15
  have hps : PS u := by
    refine ⟨hu, ?_, n2, by rw [ku.n]; exact n3, ?_, by rw [u22]; omega, by rw [u20]; omega, by rw [u20]; omega, by rw [u21]; omega, by rw [u21]; omega⟩
    · unfold sB
      rw [u22, u23]
      exact ⟨by omega, by omega, y1, y2⟩
    · rcases n5 with ⟨_, n5, _⟩ | ⟨n5, _⟩ | ⟨n5, _⟩ | ⟨n5, _⟩
      · exact Or.inl n5
      · exact Or.inr n5
      · exact Or.inr n5
      · exact Or.inr (by omega)
  refine zk_call (m_key u hu) (fun r2 u2 hp => ?_)
  obtain ⟨rfl, hr⟩ := hp
  refine zk_ite (fun _ => ?_) (fun hneg => ?_)
  · unfold B_X7_parse_81
    refine zk_ite (fun _ => ?_) (fun z => absurd rfl z)
    exact ps111 r2 0 σ u hu (fun p a _ => g1 p a) (fun k hk => g2 k (by omega)) (fun k _ => congrFun (g1 1 (by decide)) k) (Or.inl rfl)
  · have hk : r2 = 0 ∨ r2 = 1 ∨ r2 = 2 := hr.resolve_left (fun z => hneg (by rw [z]; decide))
    unfold B_X7_parse_81
    refine zk_ite (fun z => absurd z (by decide)) (fun _ => ?_)
    refine nx hps (fun _ v pv kv _ _ => ?_)
    have v20 : v 0 20 = 0 := (kv.2 20 (by decide)).trans u20
    have v21 : v 0 21 = 0 := (kv.2 21 (by decide)).trans u21
    have v22 : v 0 22 = 0 := (kv.2 22 (by decide)).trans u22
    have v23 : v 0 23 = y0 := (kv.2 23 (by decide)).trans u23
    have mbv : mb v = bb σ := by unfold mb; rw [v23]; exact hy
    have mlv : ml v = 0 := by unfold ml; rw [v22]; rfl
    refine zk_call (s_G_mp 128 0 r2 v (by decide) pv (by unfold mN; rw [v20, v21]; decide)) (fun r3 w hp => ?_)
    obtain ⟨⟨hw, fw, w1, w2, w3⟩, hr3⟩ := hp
    have i1 : ∀ p, p ≠ 0 → p ≠ 1 → w p = σ p := fun p a b => (fw.1 p a b).trans ((kv.1 p a).trans (g1 p a))
    have i2 : ∀ k, (k < 14 ∨ 24 < k) → w 0 k = σ 0 k := fun k hk => (fw.2.1 k (by omega)).trans ((kv.2 k (by omega)).trans (g2 k (by omega)))
    have i3 : ∀ k, k < bb σ → w 1 k = σ 1 k := fun k hk => (fw.2.2 k (by rw [mbv]; omega)).trans ((congrFun (kv.1 1 (by decide)) k).trans (congrFun (g1 1 (by decide)) k))
    have bad : zk (B_X7_parse_109 r2 w) (pQ σ) := by
      unfold B_X7_parse_109 B_X7_parse_110
      exact ps111 r2 0 σ w hw i1 i2 i3 (Or.inl rfl)
    refine zk_ite (fun _ => bad) (fun hn => ?_)
    refine zk_ite (fun _ => ?_) (fun _ => bad)
    obtain ⟨-, pw, _, _, _, _, _, _, hd⟩ := hr3.resolve_left hn
    unfold B_X7_parse_110
    refine ps111 r2 1 σ w hw i1 i2 i3 (Or.inr ⟨hk, pw.2.1.1, w2, ?_⟩)
    have a := hd 0
    rw [mbv, mlv] at a
    exact a
theorem m_parse (σ : zg_S) (h : IMc σ) : zk (f_X7_parse σ) (pQ σ) := by
  have e0 := zt_0
  have e14 := zt_14
  have e4 := zt_4
  have f11 : 0 ≤ (σ 1 1).toInt ∧ (σ 1 1).toInt ≤ 14 := h 1 1
  unfold f_X7_parse
  refine zk_let (fun s1 q1 => ?_)
  have h1 : IMc s1 := by rw [q1]; exact IMc.up h (zTl zt_0) ⟨by omega, by omega⟩
  refine zk_let (fun s2 q2 => ?_)
  have h2 : IMc s2 := by rw [q2]; exact IMc.up h1 (zTs _) trivial
  refine zk_let (fun s3 q3 => ?_)
  have h3 : IMc s3 := by rw [q3]; exact IMc.up h2 (zTs _) trivial
  refine zk_let (fun s4 q4 => ?_)
  have h4 : IMc s4 := by rw [q4]; exact IMc.up h3 (zTs _) trivial
  refine zk_let (fun s5 q5 => ?_)
  have h5 : IMc s5 := by rw [q5]; exact IMc.up h4 (zTs _) trivial
  refine zk_let (fun s6 q6 => ?_)
  have h6 : IMc s6 := by rw [q6]; exact IMc.up h5 (zTs _) trivial
  have r : ∀ p, p ≠ 0 → s6 p = σ p := fun p hp => by
    rw [q6]; refine (zg_row_ne hp).trans ?_
    rw [q5]; refine (zg_row_ne hp).trans ?_
    rw [q4]; refine (zg_row_ne hp).trans ?_
    rw [q3]; refine (zg_row_ne hp).trans ?_
    rw [q2]; refine (zg_row_ne hp).trans ?_
    rw [q1]; exact zg_row_ne hp
  have k : ∀ j, (j < 15 ∨ 24 < j) → s6 0 j = σ 0 j := fun j hj => by
    rw [q6]; refine (zkeepn (by omega)).trans ?_
    rw [q5]; refine (zkeepn (by omega)).trans ?_
    rw [q4]; refine (zkeepn (by omega)).trans ?_
    rw [q3]; refine (zkeepn (by omega)).trans ?_
    rw [q2]; refine (zkeepn (by omega)).trans ?_
    rw [q1]; exact zkeepn (by omega)
  have k22 : s6 0 22 = 0 := by rw [q6]; refine (zkeepf rfl).trans ?_; rw [q5]; exact zgot
  have k21 : s6 0 21 = 0 := by rw [q6]; refine (zkeepf rfl).trans ?_; rw [q5]; refine (zkeepf rfl).trans ?_; rw [q4]; exact zgot
  have k20 : s6 0 20 = 0 := by rw [q6]; refine (zkeepf rfl).trans ?_; rw [q5]; refine (zkeepf rfl).trans ?_; rw [q4]; refine (zkeepf rfl).trans ?_; rw [q3]; exact zgot
  have k17 : s6 0 17 = 3 := by rw [q6]; refine (zkeepf rfl).trans ?_; rw [q5]; refine (zkeepf rfl).trans ?_; rw [q4]; refine (zkeepf rfl).trans ?_; rw [q3]; refine (zkeepf rfl).trans ?_; rw [q2]; exact zgot
  have k16 : s6 0 16 = 0 := by rw [q6]; refine (zkeepf rfl).trans ?_; rw [q5]; refine (zkeepf rfl).trans ?_; rw [q4]; refine (zkeepf rfl).trans ?_; rw [q3]; refine (zkeepf rfl).trans ?_; rw [q2]; refine (zkeepf rfl).trans ?_; rw [q1]; exact zgot
  have r11 : s6 1 1 = σ 1 1 := congrFun (r 1 (by decide)) 1
  rw [r11]
  refine zk_ite (fun hl => ?_) (fun hl => ?_)
  · have g := zle hl
    exact ps60 2847 σ s6 h6 r k k16 k17 k20 k21 k22 (by unfold bb; rw [if_neg (by omega)]; rfl) (by decide) (by decide)
  · have g := znle hl
    refine zk_call (s_X7_textAt (σ 1 1) s6 h6 f11.1 (by omega)) (fun rr t hp => ?_)
    obtain ⟨rfl, hr⟩ := hp
    have ea := zTadd (zTl hr) (zTl zt_4) (by omega) (by omega)
    have n1 := ztn f11.1
    exact ps60 (rr + 4) σ s6 h6 r k k16 k17 k20 k21 k22 (by unfold bb; rw [if_pos (by omega)]; exact zTn ea (by omega)) (by rw [zTe ea]; omega) (by rw [zTe ea]; omega)
theorem WF_low {σ s : zg_S} (h11 : 0 ≤ (σ 1 1).toInt ∧ (σ 1 1).toInt ≤ 14) (w : WF (σ 1)) (h : ∀ k, k < bb σ → s 1 k = σ 1 k) (t : Nat) (ht : (t : Int) < (σ 1 1).toInt) : wfT (s 1) (47 + 200 * t) := by
  refine wfT_eq (fun j hj => h _ ?_) (w t ht)
  have n1 := ztn h11.1
  unfold bb
  by_cases c : (σ 1 1).toInt < 14
  · rw [if_pos c]; omega
  · rw [if_neg c]; omega
theorem m_text (σ : zg_S) (h : IM σ) : zk (f_X7_text σ) (fun _ s => IM s) := by
  obtain ⟨hc, w1, w2⟩ := h
  have e0 := zt_0
  have e1 := zt_1
  have e2 := zt_2
  have e14 := zt_14
  have f11 : 0 ≤ (σ 1 1).toInt ∧ (σ 1 1).toInt ≤ 14 := hc 1 1
  have n1 := ztn f11.1
  unfold f_X7_text
  refine zk_call (m_parse σ hc) (fun r s hp => ?_)
  obtain ⟨hs, p1, p2, p3, p4⟩ := hp
  have hb : 2 ≤ bb σ := by
    unfold bb
    by_cases c : (σ 1 1).toInt < 14
    · rw [if_pos c]; omega
    · rw [if_neg c]; omega
  have s11 : s 1 1 = σ 1 1 := p3 1 (by omega)
  have im : ¬ s 0 3 = 0 → WF (s 2) := fun hn => by
    rw [p1 2 (by decide) (by decide)]
    exact w2 (by rw [← p2 3 (by decide)]; exact hn)
  have hM : IM s := ⟨hs, fun t ht => by rw [s11] at ht; exact WF_low f11 w1 p3 t ht, im⟩
  refine zk_ite (fun hge => ?_) (fun _ => zk_some hM)
  refine zk_ite (fun _ => zk_some hM) (fun hne => ?_)
  rw [s11] at hne ⊢
  have g := zne hne
  have hlt : (σ 1 1).toInt < 14 := by omega
  have hbb : bb σ = 51 + 200 * (σ 1 1).toNatClampNeg := by unfold bb; rw [if_pos hlt]
  obtain ⟨hk, l0, l1, hd⟩ := p4.resolve_left (fun z => absurd hge (by rw [z]; decide))
  refine zk_call (s_X7_textAt (σ 1 1) s hs f11.1 (by omega)) (fun r14 t hp => ?_)
  obtain ⟨rfl, hr⟩ := hp
  have z0 := zTadd (zTl hr) (zTl zt_0) (by omega) (by omega)
  have z1 := zTadd (zTl hr) (zTl zt_1) (by omega) (by omega)
  have z2 := zTadd (zTl hr) (zTl zt_2) (by omega) (by omega)
  have i0 : (r14 + 0).toNatClampNeg = 47 + 200 * (σ 1 1).toNatClampNeg := zTn z0 (by omega)
  have i1 : (r14 + 1).toNatClampNeg = 47 + 200 * (σ 1 1).toNatClampNeg + 1 := zTn z1 (by omega)
  have i2 : (r14 + 2).toNatClampNeg = 47 + 200 * (σ 1 1).toNatClampNeg + 2 := zTn z2 (by omega)
  refine zk_in (zin_mkT z0 (by omega) (by omega)) ?_
  rw [i0]
  refine zk_let (fun t1 q1 => ?_)
  have h1 : IMc t1 := by rw [q1]; exact IMc.up hs (zTs _) (mcon1 (by omega))
  refine zk_in (zin_mkT z1 (by omega) (by omega)) ?_
  rw [i1]
  refine zk_let (fun t2 q2 => ?_)
  have h2 : IMc t2 := by rw [q2]; exact IMc.up h1 (zTs _) (mcon1 (by omega))
  refine zk_in (zin_mkT z2 (by omega) (by omega)) ?_
  rw [i2]
  refine zk_let (fun t3 q3 => ?_)
  have h3 : IMc t3 := by rw [q3]; exact IMc.up h2 (zTs _) (mcon1 (by omega))
  have rr : ∀ p, p ≠ 1 → t3 p = s p := fun p hp => by
    rw [q3]; refine (zg_row_ne hp).trans ?_
    rw [q2]; refine (zg_row_ne hp).trans ?_
    rw [q1]; exact zg_row_ne hp
  have t311 : t3 1 1 = σ 1 1 := by
    rw [q3]; refine (zkeepn (by omega)).trans ?_
    rw [q2]; refine (zkeepn (by omega)).trans ?_
    rw [q1]; exact (zkeepn (by omega)).trans s11
  rw [t311]
  have ea := zTadd (zTs (σ 1 1)) (zTl zt_1) (by omega) (by omega)
  refine zk_let (fun t4 q4 => ?_)
  have h4 : IMc t4 := by rw [q4]; exact IMc.up h3 ea ⟨by omega, by omega⟩
  have r4 : ∀ p, p ≠ 1 → t4 p = s p := fun p hp => by
    rw [q4]; exact (zg_row_ne hp).trans (rr p hp)
  have k4 : ∀ j, j ≠ 1 → (j < 47 + 200 * (σ 1 1).toNatClampNeg ∨ 47 + 200 * (σ 1 1).toNatClampNeg + 2 < j) → t4 1 j = s 1 j := fun j hj hj2 => by
    rw [q4]; refine (zkeepn hj).trans ?_
    rw [q3]; refine (zkeepn (by omega)).trans ?_
    rw [q2]; refine (zkeepn (by omega)).trans ?_
    rw [q1]; exact zkeepn (by omega)
  have k42 : t4 1 (47 + 200 * (σ 1 1).toNatClampNeg + 2) = s 0 22 := by
    rw [q4]; refine (zkeepn (by omega)).trans ?_
    rw [q3]; refine zgot.trans ?_
    rw [q2]; refine (congrFun (zup_ne rfl) 22).trans ?_
    rw [q1]; exact congrFun (zup_ne rfl) 22
  have t411 : (t4 1 1).toInt = (σ 1 1).toInt + 1 := by rw [q4]; exact (congrArg Int32.toInt zgot).trans (zTe ea)
  refine zk_some ⟨h4, fun t ht => ?_, fun hn => ?_⟩
  · rw [t411] at ht
    by_cases c : (t : Int) < (σ 1 1).toInt
    · exact wfT_eq (fun j hj => k4 _ (by omega) (by omega)) (WF_low f11 w1 p3 t c)
    · have et : t = (σ 1 1).toNatClampNeg := by omega
      subst et
      unfold wfT
      rw [k42]
      refine ⟨l0, by omega, ?_⟩
      rw [hbb] at hd
      have nl := ztn l0
      rw [show 47 + 200 * (σ 1 1).toNatClampNeg + 4 = 51 + 200 * (σ 1 1).toNatClampNeg by omega]
      refine (dep_eq _ _ _ (fun j _ hj => ?_)).trans hd
      exact ⟨k4 _ (by omega) (by omega), k4 _ (by omega) (by omega)⟩
  · rw [r4 2 (by decide)]
    exact im (by rw [← r4 0 (by decide)]; exact hn)
end
