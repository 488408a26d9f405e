/-! BOTH SIDES: what holds between the class's picture and the reference's -/
def BZ (σ : zg_S) (p : Nat) (g : Nat → Int32) : Prop := EQB σ p g ∧ TXR σ p g ∧ gOK g ∧ gC g ∧ (g 2).toInt ≤ 9999
def R2 (σ τ : zg_S) : Prop := σ 0 12 = τ 0 3 ∧ (¬ τ 0 3 = 0 → BZ σ 177 (τ 2) ∧ (τ 2 1).toInt ≤ (τ 1 1).toInt)
def R3 (σ τ : zg_S) : Prop := σ 0 10 = τ 0 14 ∧ ∀ i : Nat, (i : Int) < (τ 0 14).toInt → σ 6 i = τ 13 i
def R4 (σ τ : zg_S) : Prop := σ 0 11 = τ 0 29 ∧ ∀ i : Nat, (i : Int) < (τ 0 29).toInt → σ 5 i = τ 17 i
def R5 (σ τ : zg_S) : Prop := ∀ k, k < 4 → σ (53 + 2 * k) 0 = τ 4 k ∧ σ (53 + 2 * k) 1 = τ 5 k ∧ (∀ i, i < 24 → σ (53 + 2 * k + 1) i = τ 6 (24 * k + i)) ∧ (τ 4 k = -1 ∨ τ 4 k = 0 ∨ τ 4 k = 1)
def sWth (kind pay : Int32) : Int32 := if kind = 1 then pay + 6 else (if kind = 2 then 99 - pay else (if kind = 3 then 2 * (pay + 6) else (if kind = 4 then (99 - pay) - 8 else (if kind = 5 then 2 else pay))))
def R6j (σ τ : zg_S) (j : Nat) : Prop := σ (61 + 4 * j) 0 = τ 7 j ∧ (τ 7 j = 0 ∨ (τ 7 j = 1 ∧ σ (61 + 4 * j + 1) 0 = τ 8 j ∧ sWth (σ (61 + 4 * j + 1) 0) (σ (61 + 4 * j + 1) 3) = τ 9 j ∧ 0 ≤ (τ 8 j).toInt ∧ (τ 8 j).toInt ≤ 5) ∨ (τ 7 j = 2 ∧ σ (61 + 4 * j + 2) 1 = τ 10 j ∧ ∀ i, i < 24 → σ (61 + 4 * j + 2 + 1) i = τ 11 (24 * j + i)) ∨ (τ 7 j = 3 ∧ σ (61 + 4 * j) 1 = τ 8 j))
def R6 (σ τ : zg_S) : Prop := ∀ j, j < 5 → R6j σ τ j
def RR (σ τ : zg_S) : Prop := BZ σ 153 (τ 1) ∧ R2 σ τ ∧ R3 σ τ ∧ R4 σ τ ∧ R5 σ τ ∧ R6 σ τ
/-! kept where nothing of theirs is written -/
theorem bz_wr {σ s : zg_S} {p : Nat} {g : Nat → Int32} (h : BZ σ p g) (hp : 53 ≤ p) (h1 : ∀ q k, p ≤ q → q ≤ p + 11 → s q k = σ q k) (h2 : ∀ q k, 11 ≤ q → q ≤ 52 → q % 3 ≠ 1 → s q k = σ q k) : BZ s p g := ⟨h.1.wr h.2.2.1.1.1.2 h1, h.2.1.wr h.2.2.1.2.2.1.2 (fun k => h1 _ k (by omega) (by omega)) h2, h.2.2⟩
theorem R2.k {σ s τ t : zg_S} (h : R2 σ τ) (a : s 0 12 = σ 0 12) (b : t 0 3 = τ 0 3) (c : t 2 = τ 2) (d : (τ 1 1).toInt ≤ (t 1 1).toInt) (e : ∀ q k, 177 ≤ q → q ≤ 188 → s q k = σ q k) (f : ∀ q k, 11 ≤ q → q ≤ 52 → q % 3 ≠ 1 → s q k = σ q k) : R2 s t := by
  refine ⟨by rw [a, b]; exact h.1, fun hn => ?_⟩
  rw [b] at hn
  obtain ⟨x, y⟩ := h.2 hn
  rw [c]
  exact ⟨bz_wr x (by decide) (fun q k h1 h2 => e q k (by omega) (by omega)) f, by omega⟩
theorem R3.k {σ s τ t : zg_S} (h : R3 σ τ) (a : s 0 10 = σ 0 10) (b : t 0 14 = τ 0 14) (c : ∀ k, s 6 k = σ 6 k) (d : ∀ k, t 13 k = τ 13 k) : R3 s t := ⟨by rw [a, b]; exact h.1, fun i hi => by rw [b] at hi; rw [c, d]; exact h.2 i hi⟩
theorem R4.k {σ s τ t : zg_S} (h : R4 σ τ) (a : s 0 11 = σ 0 11) (b : t 0 29 = τ 0 29) (c : ∀ k, s 5 k = σ 5 k) (d : ∀ k, t 17 k = τ 17 k) : R4 s t := ⟨by rw [a, b]; exact h.1, fun i hi => by rw [b] at hi; rw [c, d]; exact h.2 i hi⟩
theorem R5.k {σ s τ t : zg_S} (h : R5 σ τ) (a : ∀ q k, 53 ≤ q → q ≤ 60 → s q k = σ q k) (b : ∀ k, t 4 k = τ 4 k) (c : ∀ k, t 5 k = τ 5 k) (d : ∀ k, t 6 k = τ 6 k) : R5 s t := fun k hk => by
  obtain ⟨x, y, z, w⟩ := h k hk
  rw [b, c]
  exact ⟨(a _ _ (by omega) (by omega)).trans x, (a _ _ (by omega) (by omega)).trans y, fun i hi => by rw [d]; exact (a _ _ (by omega) (by omega)).trans (z i hi), w⟩
theorem R6j.k {σ s τ t : zg_S} {j : Nat} (h : R6j σ τ j) (a : ∀ q k, 61 + 4 * j ≤ q → q ≤ 64 + 4 * j → s q k = σ q k) (b : t 7 j = τ 7 j) (c : t 8 j = τ 8 j) (d : t 9 j = τ 9 j) (e : t 10 j = τ 10 j) (f : ∀ i, i < 24 → t 11 (24 * j + i) = τ 11 (24 * j + i)) : R6j s t j := by
  obtain ⟨x, y⟩ := h
  unfold R6j
  rw [b, c, d, e]
  refine ⟨(a _ _ (by omega) (by omega)).trans x, ?_⟩
  rcases y with y | ⟨y, y1, y2, y3⟩ | ⟨y, y1, y2⟩ | ⟨y, y1⟩
  · exact Or.inl y
  · refine Or.inr (Or.inl ⟨y, (a _ _ (by omega) (by omega)).trans y1, ?_, y3⟩)
    rw [a _ _ (by omega) (by omega), a _ 3 (by omega) (by omega)]
    exact y2
  · exact Or.inr (Or.inr (Or.inl ⟨y, (a _ _ (by omega) (by omega)).trans y1, fun i hi => by rw [f i hi]; exact (a _ _ (by omega) (by omega)).trans (y2 i hi)⟩))
  · exact Or.inr (Or.inr (Or.inr ⟨y, (a _ _ (by omega) (by omega)).trans y1⟩))
theorem R6.k {σ s τ t : zg_S} (h : R6 σ τ) (a : ∀ q k, 61 ≤ q → q ≤ 80 → s q k = σ q k) (b : ∀ p k, 7 ≤ p → p ≤ 11 → t p k = τ p k) : R6 s t := fun j hj => (h j hj).k (fun q k h1 h2 => a q k (by omega) (by omega)) (b 7 j (by decide) (by decide)) (b 8 j (by decide) (by decide)) (b 9 j (by decide) (by decide)) (b 10 j (by decide) (by decide)) (fun i _ => b 11 _ (by decide) (by decide))
/-- what lies beside the bazaar: kept -/
def sideC (p k : Nat) : Prop := (p = 0 ∧ (k = 10 ∨ k = 11 ∨ k = 12)) ∨ p = 5 ∨ p = 6 ∨ (11 ≤ p ∧ p ≤ 52 ∧ p % 3 ≠ 1) ∨ (53 ≤ p ∧ p ≤ 80) ∨ (177 ≤ p ∧ p ≤ 188)
def sideM (p k : Nat) : Prop := (p = 0 ∧ (k = 3 ∨ k = 14 ∨ k = 29)) ∨ p = 2 ∨ (4 ≤ p ∧ p ≤ 11) ∨ p = 13 ∨ p = 17
/-- only the bazaar of now, and the reference's row, have changed -/
theorem RR.now {σ s τ t : zg_S} (h : RR σ τ) (a : ∀ p k, sideC p k → s p k = σ p k) (b : ∀ p k, sideM p k → t p k = τ p k) (n : (τ 1 1).toInt ≤ (t 1 1).toInt) (hb : BZ s 153 (t 1)) : RR s t := by
  obtain ⟨_, h2, h3, h4, h5, h6⟩ := h
  refine ⟨hb, h2.k (a 0 12 (by unfold sideC; omega)) (b 0 3 (by unfold sideM; omega)) (funext (fun k => b 2 k (by unfold sideM; omega))) n (fun q k _ _ => a q k (by unfold sideC; omega)) (fun q k _ _ _ => a q k (by unfold sideC; omega)), h3.k (a 0 10 (by unfold sideC; omega)) (b 0 14 (by unfold sideM; omega)) (fun k => a 6 k (by unfold sideC; omega)) (fun k => b 13 k (by unfold sideM; omega)), h4.k (a 0 11 (by unfold sideC; omega)) (b 0 29 (by unfold sideM; omega)) (fun k => a 5 k (by unfold sideC; omega)) (fun k => b 17 k (by unfold sideM; omega)), h5.k (fun q k _ _ => a q k (by unfold sideC; omega)) (fun k => b 4 k (by unfold sideM; omega)) (fun k => b 5 k (by unfold sideM; omega)) (fun k => b 6 k (by unfold sideM; omega)), h6.k (fun q k _ _ => a q k (by unfold sideC; omega)) (fun p k _ _ => b p k (by unfold sideM; omega))⟩
/-- nothing that counts has changed -/
theorem RR.same {σ s τ t : zg_S} (h : RR σ τ) (a : ∀ p k, sideC p k → s p k = σ p k) (a2 : ∀ p k, 153 ≤ p → p ≤ 164 → s p k = σ p k) (b : ∀ p k, sideM p k → t p k = τ p k) (c : t 1 = τ 1) : RR s t := h.now a b (by rw [c]; exact Int.le_refl _) (by rw [c]; exact bz_wr h.1 (by decide) (fun q k _ _ => a2 q k (by omega) (by omega)) (fun q k _ _ _ => a q k (by unfold sideC; omega)))
/-! two walks side by side -/
def z2 (o o' : Option (Int32 × zg_S)) (P : Int32 → zg_S → Int32 → zg_S → Prop) : Prop := ∃ r s r' t, o = some (r, s) ∧ o' = some (r', t) ∧ P r s r' t
section
variable {o o' : Option (Int32 × zg_S)} {P : Int32 → zg_S → Int32 → zg_S → Prop}
theorem z2_some {r r' : Int32} {s t : zg_S} (h : P r s r' t) : z2 (some (r, s)) (some (r', t)) P := ⟨r, s, r', t, rfl, rfl, h⟩
theorem z2_cL {k : Int32 → zg_S → Option (Int32 × zg_S)} {Q : Int32 → zg_S → Prop} (h : zk o Q) (hk : ∀ r s, Q r s → z2 (k r s) o' P) : z2 (zbd o k) o' P := by
  obtain ⟨r, s, rfl, hq⟩ := h
  exact hk r s hq
theorem z2_cR {k : Int32 → zg_S → Option (Int32 × zg_S)} {Q : Int32 → zg_S → Prop} (h : zk o' Q) (hk : ∀ r s, Q r s → z2 o (k r s) P) : z2 o (zbd o' k) P := by
  obtain ⟨r, s, rfl, hq⟩ := h
  exact hk r s hq
theorem z2_eL {k : Int32 → zg_S → Option (Int32 × zg_S)} {r : Int32} {s : zg_S} {o1 : Option (Int32 × zg_S)} (h : o1 = some (r, s)) (hk : z2 (k r s) o' P) : z2 (zbd o1 k) o' P := by
  rw [h]
  exact hk
theorem z2_eR {k : Int32 → zg_S → Option (Int32 × zg_S)} {r : Int32} {s : zg_S} {o1 : Option (Int32 × zg_S)} (h : o1 = some (r, s)) (hk : z2 o (k r s) P) : z2 o (zbd o1 k) P := by
  rw [h]
  exact hk
theorem z2_iL {c : Prop} [Decidable c] {a b : Option (Int32 × zg_S)} (h1 : c → z2 a o' P) (h2 : ¬ c → z2 b o' P) : z2 (if c then a else b) o' P := by
  by_cases h : c
  · rw [if_pos h]; exact h1 h
  · rw [if_neg h]; exact h2 h
theorem z2_iR {c : Prop} [Decidable c] {a b : Option (Int32 × zg_S)} (h1 : c → z2 o a P) (h2 : ¬ c → z2 o b P) : z2 o (if c then a else b) P := by
  by_cases h : c
  · rw [if_pos h]; exact h1 h
  · rw [if_neg h]; exact h2 h
theorem z2_pL {c : Prop} [Decidable c] {a b : Option (Int32 × zg_S)} (h : c) (h1 : z2 a o' P) : z2 (if c then a else b) o' P := by rw [if_pos h]; exact h1
theorem z2_nL {c : Prop} [Decidable c] {a b : Option (Int32 × zg_S)} (h : ¬ c) (h1 : z2 b o' P) : z2 (if c then a else b) o' P := by rw [if_neg h]; exact h1
theorem z2_pR {c : Prop} [Decidable c] {a b : Option (Int32 × zg_S)} (h : c) (h1 : z2 o a P) : z2 o (if c then a else b) P := by rw [if_pos h]; exact h1
theorem z2_nR {c : Prop} [Decidable c] {a b : Option (Int32 × zg_S)} (h : ¬ c) (h1 : z2 o b P) : z2 o (if c then a else b) P := by rw [if_neg h]; exact h1
theorem z2_lL {α : Type} {a : α} {k : α → Option (Int32 × zg_S)} (h : ∀ x, x = a → z2 (k x) o' P) : z2 (zlet a k) o' P := h a rfl
theorem z2_lR {α : Type} {a : α} {k : α → Option (Int32 × zg_S)} (h : ∀ x, x = a → z2 o (k x) P) : z2 o (zlet a k) P := h a rfl
theorem z2_kk {Q Q' : Int32 → zg_S → Prop} (h : zk o Q) (h' : zk o' Q') (hp : ∀ r s r' t, Q r s → Q' r' t → P r s r' t) : z2 o o' P := by
  obtain ⟨r, s, e, q⟩ := h
  obtain ⟨r', t, e', q'⟩ := h'
  exact ⟨r, s, r', t, e, e', hp r s r' t q q'⟩
theorem z2_mono {P' : Int32 → zg_S → Int32 → zg_S → Prop} (h : z2 o o' P) (hp : ∀ r s r' t, P r s r' t → P' r s r' t) : z2 o o' P' := by
  obtain ⟨r, s, r', t, e, e', q⟩ := h
  exact ⟨r, s, r', t, e, e', hp r s r' t q⟩
theorem z2_w {W W' : Nat → Nat → Prop} {σ τ : zg_S} (h : z2 o o' P) (hw : zw W σ o) (hw' : zw W' τ o') : z2 o o' (fun r s r' t => P r s r' t ∧ wr W σ s ∧ wr W' τ t) := by
  obtain ⟨r, s, r', t, e, e', q⟩ := h
  exact ⟨r, s, r', t, e, e', q, hw r s e, hw' r' t e'⟩
end
/-- both refuse, or go on -/
def Same (σ τ : zg_S) : Int32 → zg_S → Int32 → zg_S → Prop := fun r s r' t => r = r' ∧ RR s t
theorem RR.f {σ τ : zg_S} (h : RR σ τ) (i : Nat) (hi : i < 11) : σ 153 (fm i) = τ 1 i := h.1.1.1 i hi
theorem RR.s {σ τ : zg_S} (h : RR σ τ) (k j : Nat) (hk : (k : Int) < (τ 1 0).toInt) (hj : j < 4) : σ (154 + 2 + k) j = τ 1 (11 + 4 * k + j) := h.1.1.2 k j hk hj
/-! small questions -/
theorem c_isStall1 {a : Int32} {σ : zg_S} (h : 0 ≤ a.toInt ∧ a.toInt < (σ 153 3).toInt) : f_X6_isStall a σ = some (1, σ) := by
  have e0 := zt_0
  have e1 := zt_1
  have hb := Int32.toInt_lt (σ 153 3)
  have e := zTe (zTsub (zTs (σ 153 3)) (zTl zt_1) (by omega) (by omega))
  unfold f_X6_isStall
  rw [c_within1 σ ⟨by omega, by rw [e]; omega⟩]
  rfl
theorem c_isStall0 {a : Int32} {σ : zg_S} (hN : 0 ≤ (σ 153 3).toInt) (h : ¬ (0 ≤ a.toInt ∧ a.toInt < (σ 153 3).toInt)) : f_X6_isStall a σ = some (0, σ) := by
  have e0 := zt_0
  have e1 := zt_1
  have hb := Int32.toInt_lt (σ 153 3)
  have e := zTe (zTsub (zTs (σ 153 3)) (zTl zt_1) (by omega) (by omega))
  unfold f_X6_isStall
  rw [c_within0 σ (by rw [e]; omega)]
  rfl
theorem r_isStall1 {a : Int32} {τ : zg_S} (h : 0 ≤ a.toInt ∧ a.toInt < (τ 1 0).toInt) : f_X7_isStall a τ = some (1, τ) := by
  have e0 := zt_0
  have e1 := zt_1
  have hb := Int32.toInt_lt (τ 1 0)
  have e := zTe (zTsub (zTs (τ 1 0)) (zTl zt_1) (by omega) (by omega))
  unfold f_X7_isStall
  rw [r_isIn1 τ ⟨by omega, by rw [e]; omega⟩]
  rfl
theorem r_isStall0 {a : Int32} {τ : zg_S} (hN : 0 ≤ (τ 1 0).toInt) (h : ¬ (0 ≤ a.toInt ∧ a.toInt < (τ 1 0).toInt)) : f_X7_isStall a τ = some (0, τ) := by
  have e0 := zt_0
  have e1 := zt_1
  have hb := Int32.toInt_lt (τ 1 0)
  have e := zTe (zTsub (zTs (τ 1 0)) (zTl zt_1) (by omega) (by omega))
  unfold f_X7_isStall
  rw [r_isIn0 τ (by rw [e]; omega)]
  rfl
/-- is it a stall: both say the same -/
theorem z2_stall {σ τ : zg_S} {a : Int32} {k k' : Int32 → zg_S → Option (Int32 × zg_S)} {P : Int32 → zg_S → Int32 → zg_S → Prop} (h : RR σ τ) (h0 : z2 (k 0 σ) (k' 0 τ) P) (h1 : ∀ n : Nat, a.toInt = n → (n : Int) < (τ 1 0).toInt → n ≤ 8 → z2 (k 1 σ) (k' 1 τ) P) : z2 (zbd (f_X6_isStall a σ) k) (zbd (f_X7_isStall a τ) k') P := by
  have hN := h.1.2.2.1.1.1
  have e : σ 153 3 = τ 1 0 := h.f 0 (by decide)
  by_cases c : 0 ≤ a.toInt ∧ a.toInt < (τ 1 0).toInt
  · refine z2_eL (c_isStall1 (by rw [e]; exact c)) (z2_eR (r_isStall1 c) ?_)
    exact h1 a.toInt.toNat (by omega) (by omega) (by omega)
  · exact z2_eL (c_isStall0 (by rw [e]; exact hN.1) (by rw [e]; exact c)) (z2_eR (r_isStall0 hN.1 c) h0)
/-- is it within: both say the same -/
theorem z2_within {σ τ : zg_S} {a lo hi : Int32} {k k' : Int32 → zg_S → Option (Int32 × zg_S)} {P : Int32 → zg_S → Int32 → zg_S → Prop} (h0 : ¬ (lo.toInt ≤ a.toInt ∧ a.toInt ≤ hi.toInt) → z2 (k 0 σ) (k' 0 τ) P) (h1 : lo.toInt ≤ a.toInt → a.toInt ≤ hi.toInt → z2 (k 1 σ) (k' 1 τ) P) : z2 (zbd (f_X6_within a lo hi σ) k) (zbd (f_X7_isIn (Int32.toInt64 a) (Int32.toInt64 lo) (Int32.toInt64 hi) τ) k') P := by
  by_cases c : lo.toInt ≤ a.toInt ∧ a.toInt ≤ hi.toInt
  · exact z2_eL (c_within1 σ c) (z2_eR (r_isIn1 τ c) (h1 c.1 c.2))
  · exact z2_eL (c_within0 σ c) (z2_eR (r_isIn0 τ c) (h0 c))
theorem one_ne : ¬ (1 : Int32) = 0 := by decide
