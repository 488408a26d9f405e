section
/-! what is written, at most -/
def wr (W : Nat → Nat → Prop) (σ s : zg_S) : Prop := ∀ p k, ¬ W p k → s p k = σ p k
theorem wr.rf {W : Nat → Nat → Prop} {σ : zg_S} : wr W σ σ := fun _ _ _ => rfl
theorem wr.tr {W W' : Nat → Nat → Prop} {σ s t : zg_S} (h1 : wr W σ s) (h2 : wr W' s t) (h : ∀ p k, W' p k → W p k) : wr W σ t := fun p k hn => (h2 p k (fun z => hn (h p k z))).trans (h1 p k hn)
theorem wr.up {W : Nat → Nat → Prop} {σ s : zg_S} {p k : Nat} {v : Int32} (h1 : wr W σ s) (h : W p k) : wr W σ (zg_up s p k v) := fun q j hn => by
  unfold zg_up
  by_cases e : q = p
  · subst e
    rw [zg_row_eq]
    by_cases ej : j = k
    · subst ej; exact absurd h hn
    · rw [pk_un ej]; exact h1 q j hn
  · rw [zg_row_ne e]; exact h1 q j hn
theorem wr.row {W : Nat → Nat → Prop} {σ s : zg_S} {p : Nat} {f : Nat → Int32} (h1 : wr W σ s) (h : ∀ k, W p k) : wr W σ (zg_row s p f) := fun q j hn => by
  by_cases e : q = p
  · subst e; exact absurd (h j) hn
  · rw [zg_row_ne e]; exact h1 q j hn
def zw (W : Nat → Nat → Prop) (σ : zg_S) (o : Option (Int32 × zg_S)) : Prop := ∀ r s, o = some (r, s) → wr W σ s
theorem zw_none {W : Nat → Nat → Prop} {σ : zg_S} : zw W σ none := fun r s h => by cases h
theorem zw_some {W : Nat → Nat → Prop} {σ s : zg_S} {r : Int32} (h : wr W σ s) : zw W σ (some (r, s)) := fun r' s' e => by cases e; exact h
theorem zw_ite {W : Nat → Nat → Prop} {σ : zg_S} {c : Prop} [Decidable c] {t e : Option (Int32 × zg_S)} (h1 : zw W σ t) (h2 : zw W σ e) : zw W σ (if c then t else e) := by
  by_cases h : c
  · rw [if_pos h]; exact h1
  · rw [if_neg h]; exact h2
theorem zw_in {W : Nat → Nat → Prop} {σ : zg_S} {i : Int32} {n : Nat} {t : Option (Int32 × zg_S)} (h1 : i.toNatClampNeg < n → zw W σ t) : zw W σ (if zin i n = true then t else none) := by
  by_cases h : zin i n = true
  · rw [if_pos h]; exact h1 (zIn h).2
  · rw [if_neg h]; exact zw_none
theorem zw_let {W : Nat → Nat → Prop} {σ : zg_S} {α : Type} {a : α} {k : α → Option (Int32 × zg_S)} (h : ∀ x, zw W σ (k x)) : zw W σ (zlet a k) := h a
theorem zw_up {W : Nat → Nat → Prop} {σ s : zg_S} {p j : Nat} {v : Int32} {k : zg_S → Option (Int32 × zg_S)} (hw : W p j) (hs : wr W σ s) (h : ∀ x, wr W σ x → zw W σ (k x)) : zw W σ (zlet (zg_up s p j v) k) := h _ (hs.up hw)
theorem zw_row {W : Nat → Nat → Prop} {σ s : zg_S} {p : Nat} {f : Nat → Int32} {k : zg_S → Option (Int32 × zg_S)} (hw : ∀ j, W p j) (hs : wr W σ s) (h : ∀ x, wr W σ x → zw W σ (k x)) : zw W σ (zlet (zg_row s p f) k) := h _ (hs.row hw)
theorem zw_call {W W' : Nat → Nat → Prop} {σ s : zg_S} {o : Option (Int32 × zg_S)} {k : Int32 → zg_S → Option (Int32 × zg_S)} (ho : zw W' s o) (hW : ∀ p j, W' p j → W p j) (hs : wr W σ s) (h : ∀ r t, wr W σ t → zw W σ (k r t)) : zw W σ (zbd o k) := fun r' s' e => by
  obtain ⟨r, t, e1, e2⟩ := zBd e
  exact h r t (hs.tr (ho r t e1) hW) r' s' e2
theorem zw_rec {W : Nat → Nat → Prop} {σ : zg_S} {o : Option (Int32 × zg_S)} {k : Int32 → zg_S → Option (Int32 × zg_S)} (ho : zw W σ o) (h : ∀ r t, wr W σ t → zw W σ (k r t)) : zw W σ (zbd o k) := fun r' s' e => by
  obtain ⟨r, t, e1, e2⟩ := zBd e
  exact h r t (ho r t e1) r' s' e2
theorem zwf_0 {W : Nat → Nat → Prop} {σ : zg_S} {F : (zg_S → Option (Int32 × zg_S)) → zg_S → Option (Int32 × zg_S)} (h : ∀ (rec : zg_S → Option (Int32 × zg_S)), (∀  (s : zg_S), wr W σ s → zw W σ (rec  s)) → ∀  (s : zg_S), wr W σ s → zw W σ (F rec  s)) : ∀ (n : Nat)  (s : zg_S), wr W σ s → zw W σ (zfix (fun _ => none) F n  s) := by
  intro n
  induction n with
  | zero => intro  s _; exact zw_none
  | succ n ih => intro  s hs; exact h _ ih  s hs
theorem zwf_I {W : Nat → Nat → Prop} {σ : zg_S} {F : (Int32 → zg_S → Option (Int32 × zg_S)) → Int32 → zg_S → Option (Int32 × zg_S)} (h : ∀ (rec : Int32 → zg_S → Option (Int32 × zg_S)), (∀ (x0 : Int32) (s : zg_S), wr W σ s → zw W σ (rec x0 s)) → ∀ (x0 : Int32) (s : zg_S), wr W σ s → zw W σ (F rec x0 s)) : ∀ (n : Nat) (x0 : Int32) (s : zg_S), wr W σ s → zw W σ (zfix (fun _ _ => none) F n x0 s) := by
  intro n
  induction n with
  | zero => intro x0 s _; exact zw_none
  | succ n ih => intro x0 s hs; exact h _ ih x0 s hs
theorem zwf_II {W : Nat → Nat → Prop} {σ : zg_S} {F : (Int32 → Int32 → zg_S → Option (Int32 × zg_S)) → Int32 → Int32 → zg_S → Option (Int32 × zg_S)} (h : ∀ (rec : Int32 → Int32 → zg_S → Option (Int32 × zg_S)), (∀ (x0 : Int32) (x1 : Int32) (s : zg_S), wr W σ s → zw W σ (rec x0 x1 s)) → ∀ (x0 : Int32) (x1 : Int32) (s : zg_S), wr W σ s → zw W σ (F rec x0 x1 s)) : ∀ (n : Nat) (x0 : Int32) (x1 : Int32) (s : zg_S), wr W σ s → zw W σ (zfix (fun _ _ _ => none) F n x0 x1 s) := by
  intro n
  induction n with
  | zero => intro x0 x1 s _; exact zw_none
  | succ n ih => intro x0 x1 s hs; exact h _ ih x0 x1 s hs
theorem zwf_III {W : Nat → Nat → Prop} {σ : zg_S} {F : (Int32 → Int32 → Int32 → zg_S → Option (Int32 × zg_S)) → Int32 → Int32 → Int32 → zg_S → Option (Int32 × zg_S)} (h : ∀ (rec : Int32 → Int32 → Int32 → zg_S → Option (Int32 × zg_S)), (∀ (x0 : Int32) (x1 : Int32) (x2 : Int32) (s : zg_S), wr W σ s → zw W σ (rec x0 x1 x2 s)) → ∀ (x0 : Int32) (x1 : Int32) (x2 : Int32) (s : zg_S), wr W σ s → zw W σ (F rec x0 x1 x2 s)) : ∀ (n : Nat) (x0 : Int32) (x1 : Int32) (x2 : Int32) (s : zg_S), wr W σ s → zw W σ (zfix (fun _ _ _ _ => none) F n x0 x1 x2 s) := by
  intro n
  induction n with
  | zero => intro x0 x1 x2 s _; exact zw_none
  | succ n ih => intro x0 x1 x2 s hs; exact h _ ih x0 x1 x2 s hs
theorem zwf_IIII {W : Nat → Nat → Prop} {σ : zg_S} {F : (Int32 → Int32 → Int32 → Int32 → zg_S → Option (Int32 × zg_S)) → Int32 → Int32 → Int32 → Int32 → zg_S → Option (Int32 × zg_S)} (h : ∀ (rec : Int32 → Int32 → Int32 → Int32 → zg_S → Option (Int32 × zg_S)), (∀ (x0 : Int32) (x1 : Int32) (x2 : Int32) (x3 : Int32) (s : zg_S), wr W σ s → zw W σ (rec x0 x1 x2 x3 s)) → ∀ (x0 : Int32) (x1 : Int32) (x2 : Int32) (x3 : Int32) (s : zg_S), wr W σ s → zw W σ (F rec x0 x1 x2 x3 s)) : ∀ (n : Nat) (x0 : Int32) (x1 : Int32) (x2 : Int32) (x3 : Int32) (s : zg_S), wr W σ s → zw W σ (zfix (fun _ _ _ _ _ => none) F n x0 x1 x2 x3 s) := by
  intro n
  induction n with
  | zero => intro x0 x1 x2 x3 s _; exact zw_none
  | succ n ih => intro x0 x1 x2 x3 s hs; exact h _ ih x0 x1 x2 x3 s hs
theorem zwf_IIIII {W : Nat → Nat → Prop} {σ : zg_S} {F : (Int32 → Int32 → Int32 → Int32 → Int32 → zg_S → Option (Int32 × zg_S)) → Int32 → Int32 → Int32 → Int32 → Int32 → zg_S → Option (Int32 × zg_S)} (h : ∀ (rec : Int32 → Int32 → Int32 → Int32 → Int32 → zg_S → Option (Int32 × zg_S)), (∀ (x0 : Int32) (x1 : Int32) (x2 : Int32) (x3 : Int32) (x4 : Int32) (s : zg_S), wr W σ s → zw W σ (rec x0 x1 x2 x3 x4 s)) → ∀ (x0 : Int32) (x1 : Int32) (x2 : Int32) (x3 : Int32) (x4 : Int32) (s : zg_S), wr W σ s → zw W σ (F rec x0 x1 x2 x3 x4 s)) : ∀ (n : Nat) (x0 : Int32) (x1 : Int32) (x2 : Int32) (x3 : Int32) (x4 : Int32) (s : zg_S), wr W σ s → zw W σ (zfix (fun _ _ _ _ _ _ => none) F n x0 x1 x2 x3 x4 s) := by
  intro n
  induction n with
  | zero => intro x0 x1 x2 x3 x4 s _; exact zw_none
  | succ n ih => intro x0 x1 x2 x3 x4 s hs; exact h _ ih x0 x1 x2 x3 x4 s hs
theorem zwf_NI {W : Nat → Nat → Prop} {σ : zg_S} {F : (Nat → Int32 → zg_S → Option (Int32 × zg_S)) → Nat → Int32 → zg_S → Option (Int32 × zg_S)} (h : ∀ (rec : Nat → Int32 → zg_S → Option (Int32 × zg_S)), (∀ (x0 : Nat) (x1 : Int32) (s : zg_S), wr W σ s → zw W σ (rec x0 x1 s)) → ∀ (x0 : Nat) (x1 : Int32) (s : zg_S), wr W σ s → zw W σ (F rec x0 x1 s)) : ∀ (n : Nat) (x0 : Nat) (x1 : Int32) (s : zg_S), wr W σ s → zw W σ (zfix (fun _ _ _ => none) F n x0 x1 s) := by
  intro n
  induction n with
  | zero => intro x0 x1 s _; exact zw_none
  | succ n ih => intro x0 x1 s hs; exact h _ ih x0 x1 s hs
theorem zwf_NII {W : Nat → Nat → Prop} {σ : zg_S} {F : (Nat → Int32 → Int32 → zg_S → Option (Int32 × zg_S)) → Nat → Int32 → Int32 → zg_S → Option (Int32 × zg_S)} (h : ∀ (rec : Nat → Int32 → Int32 → zg_S → Option (Int32 × zg_S)), (∀ (x0 : Nat) (x1 : Int32) (x2 : Int32) (s : zg_S), wr W σ s → zw W σ (rec x0 x1 x2 s)) → ∀ (x0 : Nat) (x1 : Int32) (x2 : Int32) (s : zg_S), wr W σ s → zw W σ (F rec x0 x1 x2 s)) : ∀ (n : Nat) (x0 : Nat) (x1 : Int32) (x2 : Int32) (s : zg_S), wr W σ s → zw W σ (zfix (fun _ _ _ _ => none) F n x0 x1 x2 s) := by
  intro n
  induction n with
  | zero => intro x0 x1 x2 s _; exact zw_none
  | succ n ih => intro x0 x1 x2 s hs; exact h _ ih x0 x1 x2 s hs
def W_J0_coder_7d493 (_p _k : Nat) : Prop := False
def W_J0_length_8abf5 (_p _k : Nat) : Prop := False
def W_J0_isLatin1_aae02 (_p _k : Nat) : Prop := False
def W_J3_checkIndex_8e157 (_p _k : Nat) : Prop := False
def W_J0_checkIndex_df160 (_p _k : Nat) : Prop := False
def W_J1_charAt_3b067 (_p _k : Nat) : Prop := False
def W_J0_charAt_5068e (_p _k : Nat) : Prop := False
def W_J1_canEncode_9a6ad (_p _k : Nat) : Prop := False
def W_J1_indexOfChar_4cfef (_p _k : Nat) : Prop := False
def W_J1_indexOf_4cfef (_p _k : Nat) : Prop := False
def W_J0_indexOf_7cf53 (_p _k : Nat) : Prop := False
def W_J0_indexOf_0f7a4 (_p _k : Nat) : Prop := False
def W_J6_bitCount_0f7a4 (_p _k : Nat) : Prop := False
def W_X0_allGoods (_p _k : Nat) : Prop := False
def W_X0_draw (q0 : Nat) (p k : Nat) : Prop := p = q0 ∧ k = 13
def W_X0_lastFirst (_p _k : Nat) : Prop := False
def W_X6_held (_p _k : Nat) : Prop := False
def W_X0_blow (q0 : Nat) (p k : Nat) : Prop := p = q0 ∧ (k = 6 ∨ k = 12 ∨ k = 13)
def W_X6_within (_p _k : Nat) : Prop := False
def W_X2_hasPlace (_p _k : Nat) : Prop := False
def W_X2_hasNumber (_p _k : Nat) : Prop := False
def W_X0_differencesFrom (_p _k : Nat) : Prop := False
def W_X5_takeOver (q0 : Nat) (p k : Nat) : Prop := p = q0 + 1 ∨ (p = q0 ∧ k < 3)
def W_X0_enact (q0 : Nat) (p k : Nat) : Prop := p = q0 + 2 ∨ (p = q0 ∧ k = 4) ∨ (11 ≤ p ∧ p ≤ 52 ∧ p % 3 ≠ 1)
def W_X0_slant (_p _k : Nat) : Prop := False
def W_X0_wouldShade (_p _k : Nat) : Prop := False
def W_X0_shades (_p _k : Nat) : Prop := False
def W_X0_firstShaded (_p _k : Nat) : Prop := False
def W_X0_hauledTo (_p _k : Nat) : Prop := False
def W_X4_shadeLoss (_p _k : Nat) : Prop := False
def W_X0_heat (_p _k : Nat) : Prop := False
def W_X5_joined (_p _k : Nat) : Prop := False
def W_X5_workOut (q0 : Nat) (p k : Nat) : Prop := p = q0 + 2
def W_X0_plainLoss  (p k : Nat) : Prop := (13 ≤ p ∧ p ≤ 52 ∧ p % 3 = 1)
def W_X4_sunLoss (_p _k : Nat) : Prop := False
def W_X0_lossOf  (p k : Nat) : Prop := (13 ≤ p ∧ p ≤ 52 ∧ p % 3 = 1)
def W_X0_haulingByLoss  (p k : Nat) : Prop := (13 ≤ p ∧ p ≤ 52 ∧ p % 3 = 1)
def W_X0_payUnder (_p _k : Nat) : Prop := False
def W_X0_haulingByPay (_p _k : Nat) : Prop := False
def W_X0_hauling  (p k : Nat) : Prop := (13 ≤ p ∧ p ≤ 52 ∧ p % 3 = 1)
def W_X0_open (q0 : Nat) (p k : Nat) : Prop := (q0 + 3 ≤ p ∧ p ≤ q0 + 11) ∨ (p = q0 ∧ k = 3)
def W_X0_passHour (q0 : Nat) (p k : Nat) : Prop := (q0 + 3 ≤ p ∧ p ≤ q0 + 11 ∧ k = 2) ∨ (p = q0 ∧ (k = 6 ∨ k = 7 ∨ (10 ≤ k ∧ k ≤ 13))) ∨ (13 ≤ p ∧ p ≤ 52 ∧ p % 3 = 1)
def W_X0_shadedSet (_p _k : Nat) : Prop := False
def W_X4_takeOver (q0 : Nat) (p k : Nat) : Prop := p = q0 ∧ k < 4
def W_X0_takeOver (q0 : Nat) (p k : Nat) : Prop := (p = q0 ∧ 3 ≤ k ∧ k ≤ 13) ∨ (q0 + 2 ≤ p ∧ p ≤ q0 + 11)
def W_X0_widen (q0 : Nat) (p k : Nat) : Prop := p = q0 ∧ (k = 5 ∨ k = 6)
def W_X1_sortAt (_p _k : Nat) : Prop := False
def W_X1_advance  (p k : Nat) : Prop := p = 7 ∧ 3 ≤ k ∧ k ≤ 5
def W_X1_isWord (_p _k : Nat) : Prop := False
def W_X1_keyHere (_p _k : Nat) : Prop := False
def W_X1_levelOf (_p _k : Nat) : Prop := False
def W_X5_addStep (q0 : Nat) (p k : Nat) : Prop := p = q0 + 1 ∨ (p = q0 ∧ k = 2)
def W_X5_addLeaf (q0 : Nat) (p k : Nat) : Prop := p = q0 + 1 ∨ (p = q0 ∧ (k = 1 ∨ k = 2))
def W_X1_readNumber  (p k : Nat) : Prop := (p = 7 ∧ 3 ≤ k ∧ k ≤ 5) ∨ p = 8 ∨ p = 9
def W_X1_readName  (p k : Nat) : Prop := (p = 7 ∧ 3 ≤ k ∧ k ≤ 5) ∨ p = 8 ∨ p = 9
def W_X1_signHere (_p _k : Nat) : Prop := False
def W_G_rd (p k : Nat) : Prop := (p = 7 ∧ 3 ≤ k ∧ k ≤ 7) ∨ p = 8 ∨ p = 9
def W_X5_begin (q0 : Nat) (p k : Nat) : Prop := p = q0 ∧ k < 3
def W_X1_readText  (p k : Nat) : Prop := (p = 7 ∧ 2 ≤ k ∧ k ≤ 7) ∨ p = 8 ∨ p = 9
def W_X2_become (q0 : Nat) (p k : Nat) : Prop := (p = q0 ∧ k < 2) ∨ p = q0 + 1
def W_X2_hasPlaces (_p _k : Nat) : Prop := False
def W_X2_isMissing (_p _k : Nat) : Prop := False
def W_X2_takeOver (q0 : Nat) (p k : Nat) : Prop := (p = q0 ∧ k < 2) ∨ p = q0 + 1
def W_X3_refuses (_p _k : Nat) : Prop := False
def W_X4_isOf (_p _k : Nat) : Prop := False
def W_X4_worth (_p _k : Nat) : Prop := False
def W_X6_isStall (_p _k : Nat) : Prop := False
def W_X6_as (_p _k : Nat) : Prop := False
def W_X6_isSlot (_p _k : Nat) : Prop := False
def W_X6_ask (_p _k : Nat) : Prop := False
def W_X6_back  (p k : Nat) : Prop := 153 ≤ p ∧ p ≤ 164
def W_X6_thinkOn  (p k : Nat) : Prop := ((165 ≤ p ∧ p ≤ 176) ∨ (13 ≤ p ∧ p ≤ 52 ∧ p % 3 = 1))
def W_X6_behind  (p k : Nat) : Prop := ((165 ≤ p ∧ p ≤ 176) ∨ (13 ≤ p ∧ p ≤ 52 ∧ p % 3 = 1))
def W_G_th (p k : Nat) : Prop := (p = 0 ∧ (k = 13 ∨ k = 14)) ∨ (81 ≤ p ∧ p ≤ 152) ∨ (13 ≤ p ∧ p ≤ 52 ∧ p % 3 = 1)
def W_X6_best  (p k : Nat) : Prop := (p = 0 ∧ (k = 13 ∨ k = 14)) ∨ (81 ≤ p ∧ p ≤ 152) ∨ (13 ≤ p ∧ p ≤ 52 ∧ p % 3 = 1)
def W_X6_book (_p _k : Nat) : Prop := False
def W_X6_check  (p k : Nat) : Prop := (p = 0 ∧ k = 11) ∨ ((165 ≤ p ∧ p ≤ 176) ∨ (13 ≤ p ∧ p ≤ 52 ∧ p % 3 = 1))
def W_X6_cloth (_p _k : Nat) : Prop := False
def W_X6_isSheet (_p _k : Nat) : Prop := False
def W_X6_copy (a3 : Int32) (p k : Nat) : Prop := p = 54 + 2 * Int32.toNatClampNeg a3
def W_X6_count (_p _k : Nat) : Prop := False
def W_X6_deal  (p k : Nat) : Prop := (156 ≤ p ∧ p ≤ 164) ∨ (p = 153 ∧ (k = 3 ∨ k = 13))
def W_X6_fee  (p k : Nat) : Prop := (13 ≤ p ∧ p ≤ 52 ∧ p % 3 = 1)
def W_X6_feedBytes  (p k : Nat) : Prop := (p = 0 ∧ k = 10) ∨ p = 6
def W_X6_feed  (p k : Nat) : Prop := (p = 0 ∧ k = 10) ∨ p = 6
def W_X6_fine  (p k : Nat) : Prop := (13 ≤ p ∧ p ≤ 52 ∧ p % 3 = 1)
def W_X6_goods  (p k : Nat) : Prop := ((165 ≤ p ∧ p ≤ 176) ∨ (13 ≤ p ∧ p ≤ 52 ∧ p % 3 = 1))
def W_X6_hours  (p k : Nat) : Prop := (156 ≤ p ∧ p ≤ 164 ∧ k = 2) ∨ (p = 153 ∧ (k = 6 ∨ k = 7 ∨ (10 ≤ k ∧ k ≤ 13))) ∨ (13 ≤ p ∧ p ≤ 52 ∧ p % 3 = 1)
def W_X6_item (_p _k : Nat) : Prop := False
def W_X6_keep  (p k : Nat) : Prop := (p = 0 ∧ k = 12) ∨ (177 ≤ p ∧ p ≤ 188)
def W_X6_lay (a1 : Int32) (p k : Nat) : Prop := 61 + 4 * Int32.toNatClampNeg a1 ≤ p ∧ p ≤ 64 + 4 * Int32.toNatClampNeg a1
def W_X6_mark (a1 : Int32) (p k : Nat) : Prop := p = 54 + 2 * Int32.toNatClampNeg a1
def W_X6_pour  (p k : Nat) : Prop := 156 ≤ p ∧ p ≤ 164 ∧ k = 2
def W_X6_reads  (p k : Nat) : Prop := (13 ≤ p ∧ p ≤ 52 ∧ p % 3 = 1)
def W_X6_rest (_p _k : Nat) : Prop := False
def W_X6_ruleFirst  (p k : Nat) : Prop := p = 153 ∧ k = 6
def W_X6_ruleWidth  (p k : Nat) : Prop := p = 153 ∧ (k = 5 ∨ k = 6)
def W_X6_ruleGust  (p k : Nat) : Prop := p = 153 ∧ k = 8
def W_X6_ruleMode  (p k : Nat) : Prop := p = 153 ∧ k = 9
def W_X6_rule  (p k : Nat) : Prop := p = 153 ∧ (k = 5 ∨ k = 6 ∨ k = 8 ∨ k = 9)
def W_X6_seed  (p k : Nat) : Prop := p = 153 ∧ k = 13
def W_X6_setPlace (q0 : Nat) (p k : Nat) : Prop := p = q0 ∧ k = 1
def W_X6_setGoods (q0 : Nat) (p k : Nat) : Prop := p = q0 ∧ k = 2
def W_X6_setPay (q0 : Nat) (p k : Nat) : Prop := p = q0 ∧ k = 3
def W_X6_set (a1 : Int32) (p k : Nat) : Prop := p = 156 + Int32.toNatClampNeg a1 ∧ 1 ≤ k ∧ k ≤ 3
def W_X6_shaded  (p k : Nat) : Prop := ((165 ≤ p ∧ p ≤ 176) ∨ (13 ≤ p ∧ p ≤ 52 ∧ p % 3 = 1))
def W_X6_sheet (a1 : Int32) (p k : Nat) : Prop := 53 + 2 * Int32.toNatClampNeg a1 ≤ p ∧ p ≤ 54 + 2 * Int32.toNatClampNeg a1
def W_X6_stall  (p k : Nat) : Prop := (156 ≤ p ∧ p ≤ 164) ∨ (p = 153 ∧ k = 3)
def W_X6_tell  (p k : Nat) : Prop := (p = 0 ∧ k = 11) ∨ p = 5
def W_X6_text  (p k : Nat) : Prop := (p = 0 ∧ k = 10) ∨ p = 7 ∨ p = 8 ∨ p = 9 ∨ p = 155 ∨ (p = 153 ∧ k = 4) ∨ (11 ≤ p ∧ p ≤ 52 ∧ p % 3 ≠ 1)
def W_X6_textTold (_p _k : Nat) : Prop := False
def W_X6_told  (p k : Nat) : Prop := (13 ≤ p ∧ p ≤ 52 ∧ p % 3 = 1)
def W_X6_trim  (p k : Nat) : Prop := p = 0 ∧ k = 10
def W_X6_turns (a1 : Int32) (p k : Nat) : Prop := p = 156 + Int32.toNatClampNeg a1 ∧ k = 0
def W_X6_whose  (p k : Nat) : Prop := ((165 ≤ p ∧ p ≤ 176) ∨ (13 ≤ p ∧ p ≤ 52 ∧ p % 3 = 1))
def W_X6_why (_p _k : Nat) : Prop := False
def W_X6_wider  (p k : Nat) : Prop := ((165 ≤ p ∧ p ≤ 176) ∨ (13 ≤ p ∧ p ≤ 52 ∧ p % 3 = 1))
def W_X6_without  (p k : Nat) : Prop := ((165 ≤ p ∧ p ≤ 176) ∨ (13 ≤ p ∧ p ≤ 52 ∧ p % 3 = 1))
def W_X7_isIn (_p _k : Nat) : Prop := False
def W_X7_isStall (_p _k : Nat) : Prop := False
def W_X7_of (_p _k : Nat) : Prop := False
def W_X7_isOf (_p _k : Nat) : Prop := False
def W_X7_as (_p _k : Nat) : Prop := False
def W_X7_isSlot (_p _k : Nat) : Prop := False
def W_X7_ask (_p _k : Nat) : Prop := False
def W_X7_setAside (q2 : Nat) (p k : Nat) : Prop := p = q2
def W_X7_back  (p k : Nat) : Prop := p = 1
def W_X7_becomes (a1 : Int32) (p k : Nat) : Prop := p = 1 ∧ k = Int32.toNatClampNeg a1
def W_X7_laysBy  (p k : Nat) : Prop := p = 12
def W_X7_within (_p _k : Nat) : Prop := False
def W_X7_holds  (p k : Nat) : Prop := p = 1 ∧ k = 7
def W_X7_shadeFrom (_p _k : Nat) : Prop := False
def W_X7_isShaded (_p _k : Nat) : Prop := False
def W_X7_payNow (_p _k : Nat) : Prop := False
def W_X7_payIf  (p k : Nat) : Prop := p = 1 ∧ k = 7
def W_X7_textAt (_p _k : Nat) : Prop := False
def W_X7_counts (_p _k : Nat) : Prop := False
def W_X7_off (_p _k : Nat) : Prop := False
def W_X7_heat (_p _k : Nat) : Prop := False
def W_X7_joined (_p _k : Nat) : Prop := False
def W_X7_worked  (p k : Nat) : Prop := p = 15
def W_X7_melts  (p k : Nat) : Prop := p = 14 ∨ p = 15
def W_X7_spoils  (p k : Nat) : Prop := p = 14 ∨ p = 15
def W_X7_hauls  (p k : Nat) : Prop := p = 14 ∨ p = 15 ∨ (p = 1 ∧ k = 7)
def W_X7_sets (a1 : Int32) (a2 : Int32) (p k : Nat) : Prop := p = 1 ∧ k = Int32.toNatClampNeg ((11 + (4 * a1)) + a2)
def W_X7_drawn  (p k : Nat) : Prop := p = 1 ∧ k = 6
def W_X7_goesOnBy  (p k : Nat) : Prop := p = 1 ∨ p = 14 ∨ p = 15
def W_X7_goesOn  (p k : Nat) : Prop := p = 1 ∨ p = 14 ∨ p = 15
def W_X7_goesOnMany  (p k : Nat) : Prop := p = 1 ∨ p = 14 ∨ p = 15
def W_X7_laysBack  (p k : Nat) : Prop := p = 1
def W_X7_behind  (p k : Nat) : Prop := p = 1 ∨ p = 12 ∨ p = 14 ∨ p = 15
def W_X7_best  (p k : Nat) : Prop := p = 1 ∨ p = 12 ∨ p = 14 ∨ p = 15
def W_X7_book (_p _k : Nat) : Prop := False
def W_X7_step  (p k : Nat) : Prop := (p = 0 ∧ k = 22) ∨ p = 1
def W_X7_isLetter (_p _k : Nat) : Prop := False
def W_X7_isDigit (_p _k : Nat) : Prop := False
def W_X7_nextToken  (p k : Nat) : Prop := p = 0 ∧ 15 ≤ k ∧ k ≤ 19
def W_X7_isName (_p _k : Nat) : Prop := False
def W_X7_isSign (_p _k : Nat) : Prop := False
def W_G_mp (p k : Nat) : Prop := (p = 0 ∧ 15 ≤ k ∧ k ≤ 24) ∨ p = 1
def W_X7_check  (p k : Nat) : Prop := (p = 0 ∧ k = 29) ∨ p = 1 ∨ p = 3 ∨ p = 14 ∨ p = 15 ∨ p = 18
def W_X7_firstShaded (_p _k : Nat) : Prop := False
def W_X7_orNone (_p _k : Nat) : Prop := False
def W_X7_shadedSet (_p _k : Nat) : Prop := False
def W_X7_cloth (_p _k : Nat) : Prop := False
def W_X7_comes  (p k : Nat) : Prop := p = 1
def W_X7_isSheet (_p _k : Nat) : Prop := False
def W_X7_copy  (p k : Nat) : Prop := p = 16 ∨ p = 6
def W_X7_manyShaded (_p _k : Nat) : Prop := False
def W_X7_count (_p _k : Nat) : Prop := False
def W_X7_deal  (p k : Nat) : Prop := p = 1
def W_X7_fee  (p k : Nat) : Prop := p = 14 ∨ p = 15
def W_X7_feed  (p k : Nat) : Prop := (p = 0 ∧ k = 14) ∨ p = 13
def W_X7_fine  (p k : Nat) : Prop := p = 14 ∨ p = 15
def W_X7_goods  (p k : Nat) : Prop := p = 1 ∨ p = 12 ∨ p = 14 ∨ p = 15
def W_X7_hours  (p k : Nat) : Prop := p = 1 ∨ p = 14 ∨ p = 15
def W_X7_isText (_p _k : Nat) : Prop := False
def W_X7_isWordAt (_p _k : Nat) : Prop := False
def W_X7_item (_p _k : Nat) : Prop := False
def W_X7_keep  (p k : Nat) : Prop := (p = 0 ∧ k = 3) ∨ p = 2
def W_X7_key (_p _k : Nat) : Prop := False
def W_X7_worth (_p _k : Nat) : Prop := False
def W_X7_lay  (p k : Nat) : Prop := 7 ≤ p ∧ p ≤ 11
def W_X7_mark  (p k : Nat) : Prop := p = 6
def W_X7_mostOf (_p _k : Nat) : Prop := False
def W_X7_parse  (p k : Nat) : Prop := (p = 0 ∧ 14 ≤ k ∧ k ≤ 24) ∨ p = 1
def W_X7_pour  (p k : Nat) : Prop := p = 1
def W_X7_reads  (p k : Nat) : Prop := p = 14 ∨ p = 15
def W_X7_rest (_p _k : Nat) : Prop := False
def W_X7_rule  (p k : Nat) : Prop := p = 1
def W_X7_seed  (p k : Nat) : Prop := p = 1
def W_X7_set  (p k : Nat) : Prop := p = 1
def W_X7_shaded  (p k : Nat) : Prop := p = 1 ∨ p = 12 ∨ p = 14 ∨ p = 15
def W_X7_sheet  (p k : Nat) : Prop := 4 ≤ p ∧ p ≤ 6
def W_X7_stall  (p k : Nat) : Prop := p = 1
def W_X7_tell  (p k : Nat) : Prop := (p = 0 ∧ k = 29) ∨ p = 17
def W_X7_text  (p k : Nat) : Prop := (p = 0 ∧ 14 ≤ k ∧ k ≤ 24) ∨ p = 1
def W_X7_textTold (_p _k : Nat) : Prop := False
def W_X7_told  (p k : Nat) : Prop := p = 14 ∨ p = 15
def W_X7_trim  (p k : Nat) : Prop := p = 0 ∧ k = 14
def W_X7_turns  (p k : Nat) : Prop := p = 1
def W_X7_whose  (p k : Nat) : Prop := p = 1 ∨ p = 12 ∨ p = 14 ∨ p = 15
def W_X7_why (_p _k : Nat) : Prop := False
def W_X7_wider  (p k : Nat) : Prop := p = 1 ∨ p = 12 ∨ p = 14 ∨ p = 15
def W_X7_without  (p k : Nat) : Prop := p = 1 ∨ p = 12 ∨ p = 14 ∨ p = 15
end
section
theorem w_J0_coder_7d493 (q0 : Nat) (σ0 : zg_S) : zw (W_J0_coder_7d493) σ0 (f_J0_coder_7d493 q0 σ0) := by
  unfold f_J0_coder_7d493
  refine zw_ite ?_ zw_none
  exact zw_some wr.rf
theorem w_J0_length_8abf5 (q0 : Nat) (σ0 : zg_S) : zw (W_J0_length_8abf5) σ0 (f_J0_length_8abf5 q0 σ0) := by
  unfold f_J0_length_8abf5
  refine zw_call (w_J0_coder_7d493 q0 σ0) (fun p k h => False.elim h) wr.rf (fun r1 σ2 hσ2 => ?_)
  exact zw_some hσ2
theorem w_J0_isLatin1_aae02 (q0 : Nat) (σ0 : zg_S) : zw (W_J0_isLatin1_aae02) σ0 (f_J0_isLatin1_aae02 q0 σ0) := by
  unfold f_J0_isLatin1_aae02
  exact zw_some wr.rf
theorem wB_J3_checkIndex_8e157_9 (σ0 : zg_S) (a0 : Int32) (a1 : Int32) (s : zg_S) (hs : wr (W_J3_checkIndex_8e157) σ0 s) : zw (W_J3_checkIndex_8e157) σ0 (B_J3_checkIndex_8e157_9 a0 a1 s) := by
  unfold B_J3_checkIndex_8e157_9
  exact zw_none
theorem w_J3_checkIndex_8e157 (a0 : Int32) (a1 : Int32) (σ0 : zg_S) : zw (W_J3_checkIndex_8e157) σ0 (f_J3_checkIndex_8e157 a0 a1 σ0) := by
  unfold f_J3_checkIndex_8e157
  refine zw_ite ?_ ?_
  · exact wB_J3_checkIndex_8e157_9 σ0 a0 a1 σ0  wr.rf
  · refine zw_ite ?_ ?_
    · exact zw_some wr.rf
    · exact wB_J3_checkIndex_8e157_9 σ0 a0 a1 σ0  wr.rf
theorem w_J0_checkIndex_df160 (a0 : Int32) (a1 : Int32) (σ0 : zg_S) : zw (W_J0_checkIndex_df160) σ0 (f_J0_checkIndex_df160 a0 a1 σ0) := by
  unfold f_J0_checkIndex_df160
  refine zw_call (w_J3_checkIndex_8e157 a0 a1 σ0) (fun p k h => False.elim h) wr.rf (fun r10 σ11 hσ11 => ?_)
  exact zw_some hσ11
theorem w_J1_charAt_3b067 (q0 : Nat) (a1 : Int32) (σ0 : zg_S) : zw (W_J1_charAt_3b067) σ0 (f_J1_charAt_3b067 q0 a1 σ0) := by
  unfold f_J1_charAt_3b067
  refine zw_call (w_J0_checkIndex_df160 a1 (nI (zz_len.getD q0 0)) σ0) (fun p k h => False.elim h) wr.rf (fun r1 σ2 hσ2 => ?_)
  refine zw_in (fun z1 => ?_)
  refine zw_ite ?_ zw_none
  exact zw_some hσ2
theorem w_J0_charAt_5068e (q0 : Nat) (a1 : Int32) (σ0 : zg_S) : zw (W_J0_charAt_5068e) σ0 (f_J0_charAt_5068e q0 a1 σ0) := by
  unfold f_J0_charAt_5068e
  refine zw_call (w_J0_isLatin1_aae02 q0 σ0) (fun p k h => False.elim h) wr.rf (fun r1 σ2 hσ2 => ?_)
  refine zw_ite zw_none ?_
  refine zw_call (w_J1_charAt_3b067 q0 a1 σ2) (fun p k h => False.elim h) hσ2 (fun r11 σ12 hσ12 => ?_)
  refine zw_ite ?_ zw_none
  exact zw_some hσ12
theorem w_J1_canEncode_9a6ad (a0 : Int32) (σ0 : zg_S) : zw (W_J1_canEncode_9a6ad) σ0 (f_J1_canEncode_9a6ad a0 σ0) := by
  unfold f_J1_canEncode_9a6ad
  refine zw_ite ?_ ?_
  · exact zw_some wr.rf
  · refine zw_ite ?_ ?_
    · exact zw_some wr.rf
    · exact zw_some wr.rf
theorem wB_J1_indexOfChar_4cfef_7 (σ0 : zg_S) (q0 : Nat) (a1 : Int32) (a2 : Int32) (a3 : Int32) (rec7_ : Int32 → Int32 → zg_S → Option (Int32 × zg_S)) (x4 : Int32) (x5 : Int32) (s : zg_S) (hrec7_ : ∀ (z0 : Int32) (z1 : Int32) (s : zg_S), wr (W_J1_indexOfChar_4cfef) σ0 s → zw (W_J1_indexOfChar_4cfef) σ0 (rec7_ z0 z1 s)) (hs : wr (W_J1_indexOfChar_4cfef) σ0 s) : zw (W_J1_indexOfChar_4cfef) σ0 (B_J1_indexOfChar_4cfef_7 q0 a1 a2 a3 rec7_ x4 x5 s) := by
  unfold B_J1_indexOfChar_4cfef_7
  refine zw_ite ?_ ?_
  · exact zw_some hs
  · refine zw_in (fun z1 => ?_)
    refine zw_ite ?_ ?_
    · exact zw_some hs
    · exact hrec7_ x4 (x5 + 1) s hs
theorem wL_J1_indexOfChar_4cfef_7 (σ0 : zg_S) (q0 : Nat) (a1 : Int32) (a2 : Int32) (a3 : Int32) (n : Nat) (x4 : Int32) (x5 : Int32) (s : zg_S) (hs : wr (W_J1_indexOfChar_4cfef) σ0 s) : zw (W_J1_indexOfChar_4cfef) σ0 (L_J1_indexOfChar_4cfef_7 q0 a1 a2 a3 n x4 x5 s) := by
  unfold L_J1_indexOfChar_4cfef_7
  exact zwf_II (fun r hr x4 x5 t ht => wB_J1_indexOfChar_4cfef_7 σ0 q0 a1 a2 a3 r x4 x5 t hr ht) n x4 x5 s hs
theorem w_J1_indexOfChar_4cfef (q0 : Nat) (a1 : Int32) (a2 : Int32) (a3 : Int32) (σ0 : zg_S) : zw (W_J1_indexOfChar_4cfef) σ0 (f_J1_indexOfChar_4cfef q0 a1 a2 a3 σ0) := by
  unfold f_J1_indexOfChar_4cfef
  exact wL_J1_indexOfChar_4cfef_7 σ0 q0 a1 a2 a3 zfu ((Int32.toInt8 a1).toInt32) a2 σ0  wr.rf
theorem w_J1_indexOf_4cfef (q0 : Nat) (a1 : Int32) (a2 : Int32) (a3 : Int32) (σ0 : zg_S) : zw (W_J1_indexOf_4cfef) σ0 (f_J1_indexOf_4cfef q0 a1 a2 a3 σ0) := by
  unfold f_J1_indexOf_4cfef
  refine zw_call (w_J1_canEncode_9a6ad a1 σ0) (fun p k h => False.elim h) wr.rf (fun r1 σ2 hσ2 => ?_)
  refine zw_ite ?_ ?_
  · exact zw_some hσ2
  · refine zw_let (fun y12 => ?_)
    refine zw_ite ?_ ?_
    · refine zw_call (w_J1_indexOfChar_4cfef q0 a1 (if a2 < 0 then 0 else a2) y12 σ2) (fun p k h => False.elim h) hσ2 (fun r19 σ20 hσ20 => ?_)
      exact zw_some hσ20
    · exact zw_some hσ2
theorem w_J0_indexOf_7cf53 (q0 : Nat) (a1 : Int32) (a2 : Int32) (σ0 : zg_S) : zw (W_J0_indexOf_7cf53) σ0 (f_J0_indexOf_7cf53 q0 a1 a2 σ0) := by
  unfold f_J0_indexOf_7cf53
  refine zw_call (w_J0_isLatin1_aae02 q0 σ0) (fun p k h => False.elim h) wr.rf (fun r1 σ2 hσ2 => ?_)
  refine zw_ite zw_none ?_
  refine zw_call (w_J0_length_8abf5 q0 σ2) (fun p k h => False.elim h) hσ2 (fun r11 σ12 hσ12 => ?_)
  refine zw_call (w_J1_indexOf_4cfef q0 a1 a2 r11 σ12) (fun p k h => False.elim h) hσ12 (fun r18 σ19 hσ19 => ?_)
  exact zw_some hσ19
theorem w_J0_indexOf_0f7a4 (q0 : Nat) (a1 : Int32) (σ0 : zg_S) : zw (W_J0_indexOf_0f7a4) σ0 (f_J0_indexOf_0f7a4 q0 a1 σ0) := by
  unfold f_J0_indexOf_0f7a4
  refine zw_call (w_J0_indexOf_7cf53 q0 a1 0 σ0) (fun p k h => False.elim h) wr.rf (fun r1 σ2 hσ2 => ?_)
  exact zw_some hσ2
theorem w_J6_bitCount_0f7a4 (a0 : Int32) (σ0 : zg_S) : zw (W_J6_bitCount_0f7a4) σ0 (f_J6_bitCount_0f7a4 a0 σ0) := by
  unfold f_J6_bitCount_0f7a4
  refine zw_let (fun y1 => ?_)
  refine zw_let (fun y6 => ?_)
  refine zw_let (fun y11 => ?_)
  refine zw_let (fun y16 => ?_)
  refine zw_let (fun y21 => ?_)
  exact zw_some wr.rf
theorem wB_X0_allGoods_4 (σ0 : zg_S) (q0 : Nat) (rec4_ : Int32 → Int32 → zg_S → Option (Int32 × zg_S)) (x1 : Int32) (x2 : Int32) (s : zg_S) (hrec4_ : ∀ (z0 : Int32) (z1 : Int32) (s : zg_S), wr (W_X0_allGoods) σ0 s → zw (W_X0_allGoods) σ0 (rec4_ z0 z1 s)) (hs : wr (W_X0_allGoods) σ0 s) : zw (W_X0_allGoods) σ0 (B_X0_allGoods_4 q0 rec4_ x1 x2 s) := by
  unfold B_X0_allGoods_4
  refine zw_ite ?_ ?_
  · exact zw_some hs
  · refine zw_in (fun z1 => ?_)
    refine zw_let (fun y7 => ?_)
    exact hrec4_ y7 (x2 + 1) s hs
theorem wL_X0_allGoods_4 (σ0 : zg_S) (q0 : Nat) (n : Nat) (x1 : Int32) (x2 : Int32) (s : zg_S) (hs : wr (W_X0_allGoods) σ0 s) : zw (W_X0_allGoods) σ0 (L_X0_allGoods_4 q0 n x1 x2 s) := by
  unfold L_X0_allGoods_4
  exact zwf_II (fun r hr x1 x2 t ht => wB_X0_allGoods_4 σ0 q0 r x1 x2 t hr ht) n x1 x2 s hs
theorem w_X0_allGoods (q0 : Nat) (σ0 : zg_S) : zw (W_X0_allGoods) σ0 (f_X0_allGoods q0 σ0) := by
  unfold f_X0_allGoods
  exact wL_X0_allGoods_4 σ0 q0 zfu 0 0 σ0  wr.rf
theorem w_X0_draw (q0 : Nat) (σ0 : zg_S) : zw (W_X0_draw q0) σ0 (f_X0_draw q0 σ0) := by
  unfold f_X0_draw
  refine zw_let (fun y1 => ?_)
  refine zw_up (by unfold W_X0_draw; omega) wr.rf (fun σ4 hσ4 => ?_)
  exact zw_some hσ4
theorem w_X0_lastFirst (q0 : Nat) (σ0 : zg_S) : zw (W_X0_lastFirst) σ0 (f_X0_lastFirst q0 σ0) := by
  unfold f_X0_lastFirst
  exact zw_some wr.rf
theorem w_X6_held (a0 : Int32) (a1 : Int32) (a2 : Int32) (σ0 : zg_S) : zw (W_X6_held) σ0 (f_X6_held a0 a1 a2 σ0) := by
  unfold f_X6_held
  refine zw_let (fun y1 => ?_)
  exact zw_some wr.rf
theorem w_X0_blow (q0 : Nat) (σ0 : zg_S) : zw (W_X0_blow q0) σ0 (f_X0_blow q0 σ0) := by
  unfold f_X0_blow
  refine zw_call (w_X0_draw q0 σ0) (fun p k h => by unfold W_X0_draw at h; unfold W_X0_blow; omega) wr.rf (fun r1 σ2 hσ2 => ?_)
  refine zw_ite ?_ ?_
  · refine zw_call (w_X0_draw q0 σ2) (fun p k h => by unfold W_X0_draw at h; unfold W_X0_blow; omega) hσ2 (fun r10 σ11 hσ11 => ?_)
    refine zw_call (w_X0_lastFirst q0 σ11) (fun p k h => False.elim h) hσ11 (fun r19 σ20 hσ20 => ?_)
    refine zw_call (w_X6_held ((σ11 q0 6) + ((r10 - r10 / 3 * 3) - 1)) 0 r19 σ20) (fun p k h => False.elim h) hσ20 (fun r26 σ27 hσ27 => ?_)
    refine zw_up (by unfold W_X0_blow; omega) hσ27 (fun σ33 hσ33 => ?_)
    refine zw_ite ?_ ?_
    · exact zw_some hσ33
    · refine zw_up (by unfold W_X0_blow; omega) hσ33 (fun σ42 hσ42 => ?_)
      exact zw_some hσ42
  · exact zw_some hσ2
theorem w_X6_within (a0 : Int32) (a1 : Int32) (a2 : Int32) (σ0 : zg_S) : zw (W_X6_within) σ0 (f_X6_within a0 a1 a2 σ0) := by
  unfold f_X6_within
  refine zw_ite ?_ ?_
  · exact zw_some wr.rf
  · refine zw_ite ?_ ?_
    · exact zw_some wr.rf
    · exact zw_some wr.rf
theorem w_X2_hasPlace (q0 : Nat) (a1 : Int32) (σ0 : zg_S) : zw (W_X2_hasPlace) σ0 (f_X2_hasPlace q0 a1 σ0) := by
  unfold f_X2_hasPlace
  refine zw_call (w_X6_within a1 0 ((σ0 q0 1) - 1) σ0) (fun p k h => False.elim h) wr.rf (fun r1 σ2 hσ2 => ?_)
  refine zw_ite ?_ zw_none
  exact zw_some hσ2
theorem w_X2_hasNumber (q0 : Nat) (a1 : Int32) (σ0 : zg_S) : zw (W_X2_hasNumber) σ0 (f_X2_hasNumber q0 a1 σ0) := by
  unfold f_X2_hasNumber
  refine zw_call (w_X2_hasPlace q0 a1 σ0) (fun p k h => False.elim h) wr.rf (fun r1 σ2 hσ2 => ?_)
  refine zw_ite ?_ ?_
  · exact zw_some hσ2
  · refine zw_in (fun z1 => ?_)
    refine zw_ite ?_ ?_
    · exact zw_some hσ2
    · exact zw_some hσ2
theorem wB_X0_differencesFrom_42 (σ0 : zg_S) (q0 : Nat) (q1 : Nat) (rec4_ : Int32 → Int32 → zg_S → Option (Int32 × zg_S)) (x2 : Int32) (x3 : Int32) (s : zg_S) (hrec4_ : ∀ (z0 : Int32) (z1 : Int32) (s : zg_S), wr (W_X0_differencesFrom) σ0 s → zw (W_X0_differencesFrom) σ0 (rec4_ z0 z1 s)) (hs : wr (W_X0_differencesFrom) σ0 s) : zw (W_X0_differencesFrom) σ0 (B_X0_differencesFrom_42 q0 q1 rec4_ x2 x3 s) := by
  unfold B_X0_differencesFrom_42
  exact hrec4_ x2 (x3 + 1) s hs
theorem wB_X0_differencesFrom_4 (σ0 : zg_S) (q0 : Nat) (q1 : Nat) (rec4_ : Int32 → Int32 → zg_S → Option (Int32 × zg_S)) (x2 : Int32) (x3 : Int32) (s : zg_S) (hrec4_ : ∀ (z0 : Int32) (z1 : Int32) (s : zg_S), wr (W_X0_differencesFrom) σ0 s → zw (W_X0_differencesFrom) σ0 (rec4_ z0 z1 s)) (hs : wr (W_X0_differencesFrom) σ0 s) : zw (W_X0_differencesFrom) σ0 (B_X0_differencesFrom_4 q0 q1 rec4_ x2 x3 s) := by
  unfold B_X0_differencesFrom_4
  refine zw_ite ?_ ?_
  · exact zw_some hs
  · refine zw_call (w_X2_hasNumber q1 x3 s) (fun p k h => False.elim h) hs (fun r6 σ7 hσ7 => ?_)
    refine zw_ite ?_ ?_
    · exact wB_X0_differencesFrom_42 σ0 q0 q1 rec4_ x2 x3 σ7 hrec4_ hσ7
    · refine zw_in (fun z1 => ?_)
      refine zw_in (fun z2 => ?_)
      refine zw_let (fun y22 => ?_)
      exact wB_X0_differencesFrom_42 σ0 q0 q1 rec4_ (x2 + y22) x3 σ7 hrec4_ hσ7
theorem wL_X0_differencesFrom_4 (σ0 : zg_S) (q0 : Nat) (q1 : Nat) (n : Nat) (x2 : Int32) (x3 : Int32) (s : zg_S) (hs : wr (W_X0_differencesFrom) σ0 s) : zw (W_X0_differencesFrom) σ0 (L_X0_differencesFrom_4 q0 q1 n x2 x3 s) := by
  unfold L_X0_differencesFrom_4
  exact zwf_II (fun r hr x2 x3 t ht => wB_X0_differencesFrom_4 σ0 q0 q1 r x2 x3 t hr ht) n x2 x3 s hs
theorem w_X0_differencesFrom (q0 : Nat) (q1 : Nat) (σ0 : zg_S) : zw (W_X0_differencesFrom) σ0 (f_X0_differencesFrom q0 q1 σ0) := by
  unfold f_X0_differencesFrom
  exact wL_X0_differencesFrom_4 σ0 q0 q1 zfu 0 0 σ0  wr.rf
theorem w_X5_takeOver (q0 : Nat) (q1 : Nat) (σ0 : zg_S) : zw (W_X5_takeOver q0) σ0 (f_X5_takeOver q0 q1 σ0) := by
  unfold f_X5_takeOver
  refine zw_up (by unfold W_X5_takeOver; omega) wr.rf (fun σ1 hσ1 => ?_)
  refine zw_up (by unfold W_X5_takeOver; omega) hσ1 (fun σ7 hσ7 => ?_)
  refine zw_up (by unfold W_X5_takeOver; omega) hσ7 (fun σ13 hσ13 => ?_)
  refine zw_ite ?_ zw_none
  refine zw_row (fun j => by unfold W_X5_takeOver; omega) hσ13 (fun σ25 hσ25 => ?_)
  exact zw_some hσ25
theorem w_X0_enact (q0 : Nat) (q1 : Nat) (σ0 : zg_S) : zw (W_X0_enact q0) σ0 (f_X0_enact q0 q1 σ0) := by
  unfold f_X0_enact
  refine zw_ite ?_ ?_
  · exact zw_some wr.rf
  · refine zw_call (w_X6_within (σ0 q1 0) 0 2 σ0) (fun p k h => False.elim h) wr.rf (fun r4 σ5 hσ5 => ?_)
    refine zw_ite ?_ ?_
    · exact zw_some hσ5
    · refine zw_in (fun z1 => ?_)
      refine zw_call (w_X5_takeOver (11 + 3 * (Int32.toNatClampNeg (σ5 q0 4))) q1 σ5) (fun p k h => by unfold W_X5_takeOver at h; unfold W_X0_enact; omega) hσ5 (fun r16 σ17 hσ17 => ?_)
      refine zw_in (fun z2 => ?_)
      refine zw_up (by unfold W_X0_enact; omega) hσ17 (fun σ26 hσ26 => ?_)
      refine zw_up (by unfold W_X0_enact; omega) hσ26 (fun σ32 hσ32 => ?_)
      exact zw_some hσ32
theorem w_X0_slant (q0 : Nat) (σ0 : zg_S) : zw (W_X0_slant) σ0 (f_X0_slant q0 σ0) := by
  unfold f_X0_slant
  exact zw_some wr.rf
theorem w_X0_wouldShade (q0 : Nat) (a1 : Int32) (a2 : Int32) (σ0 : zg_S) : zw (W_X0_wouldShade) σ0 (f_X0_wouldShade q0 a1 a2 σ0) := by
  unfold f_X0_wouldShade
  refine zw_call (w_X0_slant q0 σ0) (fun p k h => False.elim h) wr.rf (fun r1 σ2 hσ2 => ?_)
  refine zw_ite ?_ ?_
  · exact zw_some hσ2
  · refine zw_ite ?_ ?_
    · exact zw_some hσ2
    · exact zw_some hσ2
theorem w_X0_shades (q0 : Nat) (a1 : Int32) (σ0 : zg_S) : zw (W_X0_shades) σ0 (f_X0_shades q0 a1 σ0) := by
  unfold f_X0_shades
  refine zw_call (w_X0_wouldShade q0 (σ0 q0 6) a1 σ0) (fun p k h => False.elim h) wr.rf (fun r1 σ2 hσ2 => ?_)
  refine zw_ite ?_ zw_none
  exact zw_some hσ2
theorem wB_X0_firstShaded_2 (σ0 : zg_S) (q0 : Nat) (rec2_ : Int32 → zg_S → Option (Int32 × zg_S)) (x1 : Int32) (s : zg_S) (hrec2_ : ∀ (z0 : Int32) (s : zg_S), wr (W_X0_firstShaded) σ0 s → zw (W_X0_firstShaded) σ0 (rec2_ z0 s)) (hs : wr (W_X0_firstShaded) σ0 s) : zw (W_X0_firstShaded) σ0 (B_X0_firstShaded_2 q0 rec2_ x1 s) := by
  unfold B_X0_firstShaded_2
  refine zw_ite ?_ ?_
  · exact zw_some hs
  · refine zw_call (w_X0_shades q0 x1 s) (fun p k h => False.elim h) hs (fun r4 σ5 hσ5 => ?_)
    refine zw_ite ?_ ?_
    · exact hrec2_ (x1 + 1) σ5 hσ5
    · exact zw_some hσ5
theorem wL_X0_firstShaded_2 (σ0 : zg_S) (q0 : Nat) (n : Nat) (x1 : Int32) (s : zg_S) (hs : wr (W_X0_firstShaded) σ0 s) : zw (W_X0_firstShaded) σ0 (L_X0_firstShaded_2 q0 n x1 s) := by
  unfold L_X0_firstShaded_2
  exact zwf_I (fun r hr x1 t ht => wB_X0_firstShaded_2 σ0 q0 r x1 t hr ht) n x1 s hs
theorem w_X0_firstShaded (q0 : Nat) (σ0 : zg_S) : zw (W_X0_firstShaded) σ0 (f_X0_firstShaded q0 σ0) := by
  unfold f_X0_firstShaded
  exact wL_X0_firstShaded_2 σ0 q0 zfu 0 σ0  wr.rf
theorem w_X0_hauledTo (q0 : Nat) (a1 : Int32) (σ0 : zg_S) : zw (W_X0_hauledTo) σ0 (f_X0_hauledTo q0 a1 σ0) := by
  unfold f_X0_hauledTo
  refine zw_ite ?_ ?_
  · refine zw_let (fun y3 => ?_)
    exact zw_some wr.rf
  · refine zw_ite ?_ ?_
    · refine zw_call (w_X0_lastFirst q0 σ0) (fun p k h => False.elim h) wr.rf (fun r9 σ10 hσ10 => ?_)
      refine zw_let (fun y16 => ?_)
      exact zw_some hσ10
    · exact zw_some wr.rf
theorem w_X4_shadeLoss (q0 : Nat) (σ0 : zg_S) : zw (W_X4_shadeLoss) σ0 (f_X4_shadeLoss q0 σ0) := by
  unfold f_X4_shadeLoss
  refine zw_ite ?_ ?_
  · exact zw_some wr.rf
  · exact zw_some wr.rf
theorem w_X0_heat (q0 : Nat) (σ0 : zg_S) : zw (W_X0_heat) σ0 (f_X0_heat q0 σ0) := by
  unfold f_X0_heat
  refine zw_let (fun y1 => ?_)
  exact zw_some wr.rf
theorem w_X5_joined (a0 : Int32) (a1 : Int32) (a2 : Int32) (σ0 : zg_S) : zw (W_X5_joined) σ0 (f_X5_joined a0 a1 a2 σ0) := by
  unfold f_X5_joined
  refine zw_ite ?_ ?_
  · refine zw_ite ?_ ?_
    · exact zw_some wr.rf
    · refine zw_ite ?_ ?_
      · exact zw_some wr.rf
      · exact zw_some wr.rf
  · refine zw_ite ?_ ?_
    · exact zw_some wr.rf
    · refine zw_ite ?_ ?_
      · exact zw_some wr.rf
      · refine zw_ite ?_ ?_
        · exact zw_some wr.rf
        · refine zw_ite ?_ ?_
          · refine zw_ite ?_ ?_
            · exact zw_some wr.rf
            · exact zw_some wr.rf
          · refine zw_ite ?_ ?_
            · refine zw_ite ?_ ?_
              · exact zw_some wr.rf
              · exact zw_some wr.rf
            · refine zw_ite ?_ ?_
              · refine zw_ite ?_ ?_
                · exact zw_some wr.rf
                · exact zw_some wr.rf
              · refine zw_ite ?_ ?_
                · refine zw_ite ?_ ?_
                  · refine zw_ite ?_ ?_
                    · exact zw_some wr.rf
                    · exact zw_some wr.rf
                  · exact zw_some wr.rf
                · refine zw_ite ?_ ?_
                  · exact zw_some wr.rf
                  · refine zw_ite zw_none ?_
                    exact zw_some wr.rf
theorem wB_X5_workOut_169 (σ0 : zg_S) (q0 : Nat) (a1 : Int32) (a2 : Int32) (a3 : Int32) (rec6_ : Int32 → Int32 → zg_S → Option (Int32 × zg_S)) (x4 : Int32) (x5 : Int32) (s : zg_S) (hrec6_ : ∀ (z0 : Int32) (z1 : Int32) (s : zg_S), wr (W_X5_workOut q0) σ0 s → zw (W_X5_workOut q0) σ0 (rec6_ z0 z1 s)) (hs : wr (W_X5_workOut q0) σ0 s) : zw (W_X5_workOut q0) σ0 (B_X5_workOut_169 q0 a1 a2 a3 rec6_ x4 x5 s) := by
  unfold B_X5_workOut_169
  exact hrec6_ x4 (x5 + 1) s hs
theorem wB_X5_workOut_122 (σ0 : zg_S) (q0 : Nat) (a1 : Int32) (a2 : Int32) (a3 : Int32) (rec6_ : Int32 → Int32 → zg_S → Option (Int32 × zg_S)) (x4 : Int32) (x5 : Int32) (y0 : Int32) (y1 : Int32) (s : zg_S) (hrec6_ : ∀ (z0 : Int32) (z1 : Int32) (s : zg_S), wr (W_X5_workOut q0) σ0 s → zw (W_X5_workOut q0) σ0 (rec6_ z0 z1 s)) (hs : wr (W_X5_workOut q0) σ0 s) : zw (W_X5_workOut q0) σ0 (B_X5_workOut_122 q0 a1 a2 a3 rec6_ x4 x5 y0 y1 s) := by
  unfold B_X5_workOut_122
  refine zw_in (fun z1 => ?_)
  refine zw_up (by unfold W_X5_workOut; omega) hs (fun σ6 hσ6 => ?_)
  exact wB_X5_workOut_169 σ0 q0 a1 a2 a3 rec6_ x4 x5 σ6 hrec6_ hσ6
theorem wB_X5_workOut_82 (σ0 : zg_S) (q0 : Nat) (a1 : Int32) (a2 : Int32) (a3 : Int32) (rec6_ : Int32 → Int32 → zg_S → Option (Int32 × zg_S)) (x4 : Int32) (x5 : Int32) (y0 : Int32) (y1 : Int32) (s : zg_S) (hrec6_ : ∀ (z0 : Int32) (z1 : Int32) (s : zg_S), wr (W_X5_workOut q0) σ0 s → zw (W_X5_workOut q0) σ0 (rec6_ z0 z1 s)) (hs : wr (W_X5_workOut q0) σ0 s) : zw (W_X5_workOut q0) σ0 (B_X5_workOut_82 q0 a1 a2 a3 rec6_ x4 x5 y0 y1 s) := by
  unfold B_X5_workOut_82
  refine zw_in (fun z1 => ?_)
  refine zw_up (by unfold W_X5_workOut; omega) hs (fun σ15 hσ15 => ?_)
  exact wB_X5_workOut_169 σ0 q0 a1 a2 a3 rec6_ x4 x5 σ15 hrec6_ hσ15
theorem wB_X5_workOut_6 (σ0 : zg_S) (q0 : Nat) (a1 : Int32) (a2 : Int32) (a3 : Int32) (rec6_ : Int32 → Int32 → zg_S → Option (Int32 × zg_S)) (x4 : Int32) (x5 : Int32) (s : zg_S) (hrec6_ : ∀ (z0 : Int32) (z1 : Int32) (s : zg_S), wr (W_X5_workOut q0) σ0 s → zw (W_X5_workOut q0) σ0 (rec6_ z0 z1 s)) (hs : wr (W_X5_workOut q0) σ0 s) : zw (W_X5_workOut q0) σ0 (B_X5_workOut_6 q0 a1 a2 a3 rec6_ x4 x5 s) := by
  unfold B_X5_workOut_6
  refine zw_ite ?_ ?_
  · refine zw_ite ?_ ?_
    · refine zw_in (fun z1 => ?_)
      exact zw_some hs
    · exact zw_some hs
  · refine zw_in (fun z2 => ?_)
    refine zw_let (fun y33 => ?_)
    refine zw_ite ?_ ?_
    · refine zw_ite ?_ ?_
      · refine zw_ite ?_ ?_
        · refine zw_in (fun z3 => ?_)
          refine zw_ite ?_ ?_
          · exact wB_X5_workOut_122 σ0 q0 a1 a2 a3 rec6_ x4 x5 1 x4 s hrec6_ hs
          · exact wB_X5_workOut_122 σ0 q0 a1 a2 a3 rec6_ x4 x5 0 x4 s hrec6_ hs
        · exact zw_some hs
      · refine zw_ite ?_ ?_
        · refine zw_in (fun z4 => ?_)
          refine zw_in (fun z5 => ?_)
          refine zw_call (w_X5_joined ((-1000) - y33) (s (q0 + 2) (Int32.toNatClampNeg (x4 + (-1)))) (s (q0 + 2) (Int32.toNatClampNeg ((x4 + (-1)) + 1))) s) (fun p k h => False.elim h) hs (fun r52 σ53 hσ53 => ?_)
          refine zw_up (by unfold W_X5_workOut; omega) hσ53 (fun σ59 hσ59 => ?_)
          exact wB_X5_workOut_169 σ0 q0 a1 a2 a3 rec6_ (x4 + (-1)) x5 σ59 hrec6_ hσ59
        · exact zw_some hs
    · refine zw_ite ?_ ?_
      · refine zw_ite ?_ ?_
        · refine zw_ite ?_ ?_
          · exact wB_X5_workOut_82 σ0 q0 a1 a2 a3 rec6_ (x4 + 1) x5 a1 (x4 + 1) s hrec6_ hs
          · refine zw_ite ?_ ?_
            · exact wB_X5_workOut_82 σ0 q0 a1 a2 a3 rec6_ (x4 + 1) x5 a2 (x4 + 1) s hrec6_ hs
            · exact wB_X5_workOut_82 σ0 q0 a1 a2 a3 rec6_ (x4 + 1) x5 a3 (x4 + 1) s hrec6_ hs
        · exact wB_X5_workOut_82 σ0 q0 a1 a2 a3 rec6_ (x4 + 1) x5 y33 (x4 + 1) s hrec6_ hs
      · exact zw_some hs
theorem wL_X5_workOut_6 (σ0 : zg_S) (q0 : Nat) (a1 : Int32) (a2 : Int32) (a3 : Int32) (n : Nat) (x4 : Int32) (x5 : Int32) (s : zg_S) (hs : wr (W_X5_workOut q0) σ0 s) : zw (W_X5_workOut q0) σ0 (L_X5_workOut_6 q0 a1 a2 a3 n x4 x5 s) := by
  unfold L_X5_workOut_6
  exact zwf_II (fun r hr x4 x5 t ht => wB_X5_workOut_6 σ0 q0 a1 a2 a3 r x4 x5 t hr ht) n x4 x5 s hs
theorem w_X5_workOut (q0 : Nat) (a1 : Int32) (a2 : Int32) (a3 : Int32) (σ0 : zg_S) : zw (W_X5_workOut q0) σ0 (f_X5_workOut q0 a1 a2 a3 σ0) := by
  unfold f_X5_workOut
  exact wL_X5_workOut_6 σ0 q0 a1 a2 a3 zfu (-1) 0 σ0  wr.rf
theorem w_X0_plainLoss (q0 : Nat) (q1 : Nat) (σ0 : zg_S) : zw (W_X0_plainLoss) σ0 (f_X0_plainLoss q0 q1 σ0) := by
  unfold f_X0_plainLoss
  refine zw_call (w_X6_within (σ0 (q0 + 2) 0) 0 13 σ0) (fun p k h => False.elim h) wr.rf (fun r3 σ4 hσ4 => ?_)
  refine zw_ite ?_ ?_
  · refine zw_call (w_X0_heat q0 σ4) (fun p k h => False.elim h) hσ4 (fun r37 σ38 hσ38 => ?_)
    exact zw_some hσ38
  · refine zw_in (fun z1 => ?_)
    refine zw_call (w_X0_heat q0 σ4) (fun p k h => False.elim h) hσ4 (fun r15 σ16 hσ16 => ?_)
    refine zw_call (w_X5_workOut (11 + 3 * (Int32.toNatClampNeg (σ0 (q0 + 2) 0))) r15 (σ16 q1 2) (σ16 q1 3) σ16) (fun p k h => by unfold W_X5_workOut at h; unfold W_X0_plainLoss; omega) hσ16 (fun r22 σ23 hσ23 => ?_)
    refine zw_call (w_X6_held r22 0 (σ23 q1 2) σ23) (fun p k h => False.elim h) hσ23 (fun r29 σ30 hσ30 => ?_)
    exact zw_some hσ30
theorem w_X4_sunLoss (q0 : Nat) (a1 : Int32) (σ0 : zg_S) : zw (W_X4_sunLoss) σ0 (f_X4_sunLoss q0 a1 σ0) := by
  unfold f_X4_sunLoss
  refine zw_ite ?_ ?_
  · exact zw_some wr.rf
  · refine zw_ite ?_ ?_
    · exact zw_some wr.rf
    · refine zw_ite ?_ ?_
      · exact zw_some wr.rf
      · refine zw_ite ?_ ?_
        · exact zw_some wr.rf
        · refine zw_ite ?_ ?_
          · exact zw_some wr.rf
          · exact zw_some wr.rf
theorem wB_X0_lossOf_36 (σ0 : zg_S) (q0 : Nat) (q1 : Nat) (y0 : Int32) (s : zg_S) (hs : wr (W_X0_lossOf) σ0 s) : zw (W_X0_lossOf) σ0 (B_X0_lossOf_36 q0 q1 y0 s) := by
  unfold B_X0_lossOf_36
  refine zw_let (fun y3 => ?_)
  exact zw_some hs
theorem w_X0_lossOf (q0 : Nat) (q1 : Nat) (σ0 : zg_S) : zw (W_X0_lossOf) σ0 (f_X0_lossOf q0 q1 σ0) := by
  unfold f_X0_lossOf
  refine zw_ite ?_ ?_
  · exact zw_some wr.rf
  · refine zw_call (w_X0_shades q0 (σ0 q1 1) σ0) (fun p k h => False.elim h) wr.rf (fun r8 σ9 hσ9 => ?_)
    refine zw_ite ?_ ?_
    · refine zw_call (w_X0_plainLoss q0 q1 σ9) (fun p k h => by unfold W_X0_plainLoss at h; unfold W_X0_lossOf; omega) hσ9 (fun r17 σ18 hσ18 => ?_)
      refine zw_call (w_X4_sunLoss q1 r17 σ18) (fun p k h => False.elim h) hσ18 (fun r24 σ25 hσ25 => ?_)
      exact wB_X0_lossOf_36 σ0 q0 q1 r24 σ25  hσ25
    · refine zw_call (w_X4_shadeLoss q1 σ9) (fun p k h => False.elim h) hσ9 (fun r32 σ33 hσ33 => ?_)
      exact wB_X0_lossOf_36 σ0 q0 q1 r32 σ33  hσ33
theorem wB_X0_haulingByLoss_78 (σ0 : zg_S) (q0 : Nat) (rec6_ : Int32 → Int32 → Int32 → zg_S → Option (Int32 × zg_S)) (x1 : Int32) (x2 : Int32) (x3 : Int32) (s : zg_S) (hrec6_ : ∀ (z0 : Int32) (z1 : Int32) (z2 : Int32) (s : zg_S), wr (W_X0_haulingByLoss) σ0 s → zw (W_X0_haulingByLoss) σ0 (rec6_ z0 z1 z2 s)) (hs : wr (W_X0_haulingByLoss) σ0 s) : zw (W_X0_haulingByLoss) σ0 (B_X0_haulingByLoss_78 q0 rec6_ x1 x2 x3 s) := by
  unfold B_X0_haulingByLoss_78
  exact hrec6_ x1 x2 (x3 + 1) s hs
theorem wB_X0_haulingByLoss_77 (σ0 : zg_S) (q0 : Nat) (rec6_ : Int32 → Int32 → Int32 → zg_S → Option (Int32 × zg_S)) (x2 : Int32) (x3 : Int32) (y0 : Int32) (s : zg_S) (hrec6_ : ∀ (z0 : Int32) (z1 : Int32) (z2 : Int32) (s : zg_S), wr (W_X0_haulingByLoss) σ0 s → zw (W_X0_haulingByLoss) σ0 (rec6_ z0 z1 z2 s)) (hs : wr (W_X0_haulingByLoss) σ0 s) : zw (W_X0_haulingByLoss) σ0 (B_X0_haulingByLoss_77 q0 rec6_ x2 x3 y0 s) := by
  unfold B_X0_haulingByLoss_77
  exact wB_X0_haulingByLoss_78 σ0 q0 rec6_ y0 x2 x3 s hrec6_ hs
theorem wB_X0_haulingByLoss_6 (σ0 : zg_S) (q0 : Nat) (rec6_ : Int32 → Int32 → Int32 → zg_S → Option (Int32 × zg_S)) (x1 : Int32) (x2 : Int32) (x3 : Int32) (s : zg_S) (hrec6_ : ∀ (z0 : Int32) (z1 : Int32) (z2 : Int32) (s : zg_S), wr (W_X0_haulingByLoss) σ0 s → zw (W_X0_haulingByLoss) σ0 (rec6_ z0 z1 z2 s)) (hs : wr (W_X0_haulingByLoss) σ0 s) : zw (W_X0_haulingByLoss) σ0 (B_X0_haulingByLoss_6 q0 rec6_ x1 x2 x3 s) := by
  unfold B_X0_haulingByLoss_6
  refine zw_ite ?_ ?_
  · exact zw_some hs
  · refine zw_in (fun z1 => ?_)
    refine zw_call (w_X0_shades q0 (s ((q0 + 1) + 2 + (Int32.toNatClampNeg x3)) 1) s) (fun p k h => False.elim h) hs (fun r30 σ31 hσ31 => ?_)
    refine zw_ite ?_ ?_
    · refine zw_call (w_X0_lossOf q0 ((q0 + 1) + 2 + (Int32.toNatClampNeg x3)) σ31) (fun p k h => by unfold W_X0_lossOf at h; unfold W_X0_haulingByLoss; omega) hσ31 (fun r39 σ40 hσ40 => ?_)
      unfold B_X0_haulingByLoss_44
      refine zw_ite ?_ ?_
      · exact wB_X0_haulingByLoss_78 σ0 q0 rec6_ x1 x2 x3 σ40 hrec6_ hσ40
      · refine zw_call (w_X0_slant q0 σ40) (fun p k h => False.elim h) hσ40 (fun r12 σ13 hσ13 => ?_)
        refine zw_ite ?_ ?_
        · exact wB_X0_haulingByLoss_77 σ0 q0 rec6_ r39 x3 2 σ13 hrec6_ hσ13
        · exact wB_X0_haulingByLoss_77 σ0 q0 rec6_ r39 x3 1 σ13 hrec6_ hσ13
    · unfold B_X0_haulingByLoss_44
      refine zw_ite ?_ ?_
      · exact wB_X0_haulingByLoss_78 σ0 q0 rec6_ x1 x2 x3 σ31 hrec6_ hσ31
      · refine zw_call (w_X0_slant q0 σ31) (fun p k h => False.elim h) hσ31 (fun r12 σ13 hσ13 => ?_)
        refine zw_ite ?_ ?_
        · exact wB_X0_haulingByLoss_77 σ0 q0 rec6_ 0 x3 2 σ13 hrec6_ hσ13
        · exact wB_X0_haulingByLoss_77 σ0 q0 rec6_ 0 x3 1 σ13 hrec6_ hσ13
theorem wL_X0_haulingByLoss_6 (σ0 : zg_S) (q0 : Nat) (n : Nat) (x1 : Int32) (x2 : Int32) (x3 : Int32) (s : zg_S) (hs : wr (W_X0_haulingByLoss) σ0 s) : zw (W_X0_haulingByLoss) σ0 (L_X0_haulingByLoss_6 q0 n x1 x2 x3 s) := by
  unfold L_X0_haulingByLoss_6
  exact zwf_III (fun r hr x1 x2 x3 t ht => wB_X0_haulingByLoss_6 σ0 q0 r x1 x2 x3 t hr ht) n x1 x2 x3 s hs
theorem w_X0_haulingByLoss (q0 : Nat) (σ0 : zg_S) : zw (W_X0_haulingByLoss) σ0 (f_X0_haulingByLoss q0 σ0) := by
  unfold f_X0_haulingByLoss
  exact wL_X0_haulingByLoss_6 σ0 q0 zfu 0 0 0 σ0  wr.rf
theorem wB_X0_payUnder_41 (σ0 : zg_S) (q0 : Nat) (a1 : Int32) (rec4_ : Int32 → Int32 → zg_S → Option (Int32 × zg_S)) (x2 : Int32) (x3 : Int32) (s : zg_S) (hrec4_ : ∀ (z0 : Int32) (z1 : Int32) (s : zg_S), wr (W_X0_payUnder) σ0 s → zw (W_X0_payUnder) σ0 (rec4_ z0 z1 s)) (hs : wr (W_X0_payUnder) σ0 s) : zw (W_X0_payUnder) σ0 (B_X0_payUnder_41 q0 a1 rec4_ x2 x3 s) := by
  unfold B_X0_payUnder_41
  exact hrec4_ x2 (x3 + 1) s hs
theorem wB_X0_payUnder_4 (σ0 : zg_S) (q0 : Nat) (a1 : Int32) (rec4_ : Int32 → Int32 → zg_S → Option (Int32 × zg_S)) (x2 : Int32) (x3 : Int32) (s : zg_S) (hrec4_ : ∀ (z0 : Int32) (z1 : Int32) (s : zg_S), wr (W_X0_payUnder) σ0 s → zw (W_X0_payUnder) σ0 (rec4_ z0 z1 s)) (hs : wr (W_X0_payUnder) σ0 s) : zw (W_X0_payUnder) σ0 (B_X0_payUnder_4 q0 a1 rec4_ x2 x3 s) := by
  unfold B_X0_payUnder_4
  refine zw_ite ?_ ?_
  · exact zw_some hs
  · refine zw_in (fun z1 => ?_)
    refine zw_call (w_X0_wouldShade q0 a1 (s ((q0 + 1) + 2 + (Int32.toNatClampNeg x3)) 1) s) (fun p k h => False.elim h) hs (fun r9 σ10 hσ10 => ?_)
    refine zw_ite ?_ ?_
    · exact wB_X0_payUnder_41 σ0 q0 a1 rec4_ x2 x3 σ10 hrec4_ hσ10
    · refine zw_let (fun y19 => ?_)
      exact wB_X0_payUnder_41 σ0 q0 a1 rec4_ y19 x3 σ10 hrec4_ hσ10
theorem wL_X0_payUnder_4 (σ0 : zg_S) (q0 : Nat) (a1 : Int32) (n : Nat) (x2 : Int32) (x3 : Int32) (s : zg_S) (hs : wr (W_X0_payUnder) σ0 s) : zw (W_X0_payUnder) σ0 (L_X0_payUnder_4 q0 a1 n x2 x3 s) := by
  unfold L_X0_payUnder_4
  exact zwf_II (fun r hr x2 x3 t ht => wB_X0_payUnder_4 σ0 q0 a1 r x2 x3 t hr ht) n x2 x3 s hs
theorem w_X0_payUnder (q0 : Nat) (a1 : Int32) (σ0 : zg_S) : zw (W_X0_payUnder) σ0 (f_X0_payUnder q0 a1 σ0) := by
  unfold f_X0_payUnder
  exact wL_X0_payUnder_4 σ0 q0 a1 zfu 0 0 σ0  wr.rf
theorem wB_X0_haulingByPay_33 (σ0 : zg_S) (q0 : Nat) (rec6_ : Int32 → Int32 → Int32 → zg_S → Option (Int32 × zg_S)) (x1 : Int32) (x2 : Int32) (x3 : Int32) (s : zg_S) (hrec6_ : ∀ (z0 : Int32) (z1 : Int32) (z2 : Int32) (s : zg_S), wr (W_X0_haulingByPay) σ0 s → zw (W_X0_haulingByPay) σ0 (rec6_ z0 z1 z2 s)) (hs : wr (W_X0_haulingByPay) σ0 s) : zw (W_X0_haulingByPay) σ0 (B_X0_haulingByPay_33 q0 rec6_ x1 x2 x3 s) := by
  unfold B_X0_haulingByPay_33
  exact hrec6_ x1 x2 (x3 + 1) s hs
theorem wB_X0_haulingByPay_6 (σ0 : zg_S) (q0 : Nat) (rec6_ : Int32 → Int32 → Int32 → zg_S → Option (Int32 × zg_S)) (x1 : Int32) (x2 : Int32) (x3 : Int32) (s : zg_S) (hrec6_ : ∀ (z0 : Int32) (z1 : Int32) (z2 : Int32) (s : zg_S), wr (W_X0_haulingByPay) σ0 s → zw (W_X0_haulingByPay) σ0 (rec6_ z0 z1 z2 s)) (hs : wr (W_X0_haulingByPay) σ0 s) : zw (W_X0_haulingByPay) σ0 (B_X0_haulingByPay_6 q0 rec6_ x1 x2 x3 s) := by
  unfold B_X0_haulingByPay_6
  refine zw_ite ?_ ?_
  · exact zw_some hs
  · refine zw_call (w_X0_hauledTo q0 x3 s) (fun p k h => False.elim h) hs (fun r6 σ7 hσ7 => ?_)
    refine zw_call (w_X0_payUnder q0 r6 σ7) (fun p k h => False.elim h) hσ7 (fun r13 σ14 hσ14 => ?_)
    refine zw_ite ?_ ?_
    · exact wB_X0_haulingByPay_33 σ0 q0 rec6_ x1 x2 x3 σ14 hrec6_ hσ14
    · exact wB_X0_haulingByPay_33 σ0 q0 rec6_ x3 r13 x3 σ14 hrec6_ hσ14
theorem wL_X0_haulingByPay_6 (σ0 : zg_S) (q0 : Nat) (n : Nat) (x1 : Int32) (x2 : Int32) (x3 : Int32) (s : zg_S) (hs : wr (W_X0_haulingByPay) σ0 s) : zw (W_X0_haulingByPay) σ0 (L_X0_haulingByPay_6 q0 n x1 x2 x3 s) := by
  unfold L_X0_haulingByPay_6
  exact zwf_III (fun r hr x1 x2 x3 t ht => wB_X0_haulingByPay_6 σ0 q0 r x1 x2 x3 t hr ht) n x1 x2 x3 s hs
theorem w_X0_haulingByPay (q0 : Nat) (σ0 : zg_S) : zw (W_X0_haulingByPay) σ0 (f_X0_haulingByPay q0 σ0) := by
  unfold f_X0_haulingByPay
  exact wL_X0_haulingByPay_6 σ0 q0 zfu 0 (-1) 0 σ0  wr.rf
theorem w_X0_hauling (q0 : Nat) (σ0 : zg_S) : zw (W_X0_hauling) σ0 (f_X0_hauling q0 σ0) := by
  unfold f_X0_hauling
  refine zw_ite ?_ ?_
  · refine zw_call (w_X0_haulingByLoss q0 σ0) (fun p k h => by unfold W_X0_haulingByLoss at h; unfold W_X0_hauling; omega) wr.rf (fun r3 σ4 hσ4 => ?_)
    exact zw_some hσ4
  · refine zw_ite ?_ ?_
    · refine zw_call (w_X0_haulingByPay q0 σ0) (fun p k h => False.elim h) wr.rf (fun r13 σ14 hσ14 => ?_)
      exact zw_some hσ14
    · exact zw_some wr.rf
theorem w_X0_open (q0 : Nat) (a1 : Int32) (a2 : Int32) (a3 : Int32) (σ0 : zg_S) : zw (W_X0_open q0) σ0 (f_X0_open q0 a1 a2 a3 σ0) := by
  unfold f_X0_open
  refine zw_ite ?_ ?_
  · refine zw_in (fun z1 => ?_)
    refine zw_up (by unfold W_X0_open; omega) wr.rf (fun σ8 hσ8 => ?_)
    refine zw_up (by unfold W_X0_open; omega) hσ8 (fun σ14 hσ14 => ?_)
    refine zw_up (by unfold W_X0_open; omega) hσ14 (fun σ20 hσ20 => ?_)
    refine zw_up (by unfold W_X0_open; omega) hσ20 (fun σ26 hσ26 => ?_)
    refine zw_up (by unfold W_X0_open; omega) hσ26 (fun σ32 hσ32 => ?_)
    exact zw_some hσ32
  · exact zw_some wr.rf
theorem wB_X0_passHour_79 (σ0 : zg_S) (q0 : Nat) (a1 : Int32) (rec11_ : Int32 → zg_S → Option (Int32 × zg_S)) (x2 : Int32) (s : zg_S) (hrec11_ : ∀ (z0 : Int32) (s : zg_S), wr (W_X0_passHour q0) σ0 s → zw (W_X0_passHour q0) σ0 (rec11_ z0 s)) (hs : wr (W_X0_passHour q0) σ0 s) : zw (W_X0_passHour q0) σ0 (B_X0_passHour_79 q0 a1 rec11_ x2 s) := by
  unfold B_X0_passHour_79
  exact hrec11_ (x2 + 1) s hs
theorem wB_X0_passHour_11 (σ0 : zg_S) (q0 : Nat) (a1 : Int32) (rec11_ : Int32 → zg_S → Option (Int32 × zg_S)) (x2 : Int32) (s : zg_S) (hrec11_ : ∀ (z0 : Int32) (s : zg_S), wr (W_X0_passHour q0) σ0 s → zw (W_X0_passHour q0) σ0 (rec11_ z0 s)) (hs : wr (W_X0_passHour q0) σ0 s) : zw (W_X0_passHour q0) σ0 (B_X0_passHour_11 q0 a1 rec11_ x2 s) := by
  unfold B_X0_passHour_11
  refine zw_ite ?_ ?_
  · refine zw_call (w_X0_blow q0 s) (fun p k h => by unfold W_X0_blow at h; unfold W_X0_passHour; omega) hs (fun r5 σ6 hσ6 => ?_)
    refine zw_up (by unfold W_X0_passHour; omega) hσ6 (fun σ12 hσ12 => ?_)
    exact zw_some hσ12
  · refine zw_in (fun z1 => ?_)
    refine zw_call (w_X0_lossOf q0 ((q0 + 1) + 2 + (Int32.toNatClampNeg x2)) s) (fun p k h => by unfold W_X0_lossOf at h; unfold W_X0_passHour; omega) hs (fun r24 σ25 hσ25 => ?_)
    refine zw_let (fun y33 => ?_)
    refine zw_up (by unfold W_X0_passHour; omega) hσ25 (fun σ36 hσ36 => ?_)
    refine zw_up (by unfold W_X0_passHour; omega) hσ36 (fun σ42 hσ42 => ?_)
    refine zw_call (w_X0_shades q0 (σ42 ((q0 + 1) + 2 + (Int32.toNatClampNeg x2)) 1) σ42) (fun p k h => False.elim h) hσ42 (fun r48 σ49 hσ49 => ?_)
    refine zw_ite ?_ ?_
    · exact wB_X0_passHour_79 σ0 q0 a1 rec11_ x2 σ49 hrec11_ hσ49
    · refine zw_let (fun y58 => ?_)
      refine zw_up (by unfold W_X0_passHour; omega) hσ49 (fun σ61 hσ61 => ?_)
      exact wB_X0_passHour_79 σ0 q0 a1 rec11_ x2 σ61 hrec11_ hσ61
theorem wL_X0_passHour_11 (σ0 : zg_S) (q0 : Nat) (a1 : Int32) (n : Nat) (x2 : Int32) (s : zg_S) (hs : wr (W_X0_passHour q0) σ0 s) : zw (W_X0_passHour q0) σ0 (L_X0_passHour_11 q0 a1 n x2 s) := by
  unfold L_X0_passHour_11
  exact zwf_I (fun r hr x2 t ht => wB_X0_passHour_11 σ0 q0 a1 r x2 t hr ht) n x2 s hs
theorem w_X0_passHour (q0 : Nat) (a1 : Int32) (σ0 : zg_S) : zw (W_X0_passHour q0) σ0 (f_X0_passHour q0 a1 σ0) := by
  unfold f_X0_passHour
  refine zw_call (w_X0_hauledTo q0 a1 σ0) (fun p k h => False.elim h) wr.rf (fun r67 σ68 hσ68 => ?_)
  refine zw_up (by unfold W_X0_passHour; omega) hσ68 (fun σ74 hσ74 => ?_)
  exact wL_X0_passHour_11 σ0 q0 a1 zfu 0 σ74  hσ74
theorem wB_X0_shadedSet_34 (σ0 : zg_S) (q0 : Nat) (rec4_ : Int32 → Int32 → zg_S → Option (Int32 × zg_S)) (x1 : Int32) (x2 : Int32) (s : zg_S) (hrec4_ : ∀ (z0 : Int32) (z1 : Int32) (s : zg_S), wr (W_X0_shadedSet) σ0 s → zw (W_X0_shadedSet) σ0 (rec4_ z0 z1 s)) (hs : wr (W_X0_shadedSet) σ0 s) : zw (W_X0_shadedSet) σ0 (B_X0_shadedSet_34 q0 rec4_ x1 x2 s) := by
  unfold B_X0_shadedSet_34
  exact hrec4_ x1 (x2 + 1) s hs
theorem wB_X0_shadedSet_4 (σ0 : zg_S) (q0 : Nat) (rec4_ : Int32 → Int32 → zg_S → Option (Int32 × zg_S)) (x1 : Int32) (x2 : Int32) (s : zg_S) (hrec4_ : ∀ (z0 : Int32) (z1 : Int32) (s : zg_S), wr (W_X0_shadedSet) σ0 s → zw (W_X0_shadedSet) σ0 (rec4_ z0 z1 s)) (hs : wr (W_X0_shadedSet) σ0 s) : zw (W_X0_shadedSet) σ0 (B_X0_shadedSet_4 q0 rec4_ x1 x2 s) := by
  unfold B_X0_shadedSet_4
  refine zw_ite ?_ ?_
  · exact zw_some hs
  · refine zw_in (fun z1 => ?_)
    refine zw_call (w_X0_shades q0 (s ((q0 + 1) + 2 + (Int32.toNatClampNeg x2)) 1) s) (fun p k h => False.elim h) hs (fun r9 σ10 hσ10 => ?_)
    refine zw_ite ?_ ?_
    · exact wB_X0_shadedSet_34 σ0 q0 rec4_ x1 x2 σ10 hrec4_ hσ10
    · exact wB_X0_shadedSet_34 σ0 q0 rec4_ (x1 ||| (1 <<< (x2 &&& 31))) x2 σ10 hrec4_ hσ10
theorem wL_X0_shadedSet_4 (σ0 : zg_S) (q0 : Nat) (n : Nat) (x1 : Int32) (x2 : Int32) (s : zg_S) (hs : wr (W_X0_shadedSet) σ0 s) : zw (W_X0_shadedSet) σ0 (L_X0_shadedSet_4 q0 n x1 x2 s) := by
  unfold L_X0_shadedSet_4
  exact zwf_II (fun r hr x1 x2 t ht => wB_X0_shadedSet_4 σ0 q0 r x1 x2 t hr ht) n x1 x2 s hs
theorem w_X0_shadedSet (q0 : Nat) (σ0 : zg_S) : zw (W_X0_shadedSet) σ0 (f_X0_shadedSet q0 σ0) := by
  unfold f_X0_shadedSet
  exact wL_X0_shadedSet_4 σ0 q0 zfu 0 0 σ0  wr.rf
theorem w_X4_takeOver (q0 : Nat) (q1 : Nat) (σ0 : zg_S) : zw (W_X4_takeOver q0) σ0 (f_X4_takeOver q0 q1 σ0) := by
  unfold f_X4_takeOver
  refine zw_up (by unfold W_X4_takeOver; omega) wr.rf (fun σ1 hσ1 => ?_)
  refine zw_up (by unfold W_X4_takeOver; omega) hσ1 (fun σ7 hσ7 => ?_)
  refine zw_up (by unfold W_X4_takeOver; omega) hσ7 (fun σ13 hσ13 => ?_)
  refine zw_up (by unfold W_X4_takeOver; omega) hσ13 (fun σ19 hσ19 => ?_)
  exact zw_some hσ19
theorem wB_X0_takeOver_49 (σ0 : zg_S) (q0 : Nat) (q1 : Nat) (rec49_ : Int32 → zg_S → Option (Int32 × zg_S)) (x2 : Int32) (s : zg_S) (hrec49_ : ∀ (z0 : Int32) (s : zg_S), wr (W_X0_takeOver q0) σ0 s → zw (W_X0_takeOver q0) σ0 (rec49_ z0 s)) (hs : wr (W_X0_takeOver q0) σ0 s) : zw (W_X0_takeOver q0) σ0 (B_X0_takeOver_49 q0 q1 rec49_ x2 s) := by
  unfold B_X0_takeOver_49
  refine zw_ite ?_ ?_
  · refine zw_up (by unfold W_X0_takeOver; omega) hs (fun σ3 hσ3 => ?_)
    refine zw_up (by unfold W_X0_takeOver; omega) hσ3 (fun σ9 hσ9 => ?_)
    refine zw_up (by unfold W_X0_takeOver; omega) hσ9 (fun σ15 hσ15 => ?_)
    refine zw_up (by unfold W_X0_takeOver; omega) hσ15 (fun σ21 hσ21 => ?_)
    refine zw_up (by unfold W_X0_takeOver; omega) hσ21 (fun σ27 hσ27 => ?_)
    refine zw_up (by unfold W_X0_takeOver; omega) hσ27 (fun σ33 hσ33 => ?_)
    refine zw_up (by unfold W_X0_takeOver; omega) hσ33 (fun σ39 hσ39 => ?_)
    refine zw_up (by unfold W_X0_takeOver; omega) hσ39 (fun σ45 hσ45 => ?_)
    refine zw_up (by unfold W_X0_takeOver; omega) hσ45 (fun σ51 hσ51 => ?_)
    exact zw_some hσ51
  · refine zw_in (fun z1 => ?_)
    refine zw_let (fun y61 => ?_)
    refine zw_up (by unfold W_X0_takeOver; omega) hs (fun σ64 hσ64 => ?_)
    exact hrec49_ (x2 + 1) σ64 hσ64
theorem wL_X0_takeOver_49 (σ0 : zg_S) (q0 : Nat) (q1 : Nat) (n : Nat) (x2 : Int32) (s : zg_S) (hs : wr (W_X0_takeOver q0) σ0 s) : zw (W_X0_takeOver q0) σ0 (L_X0_takeOver_49 q0 q1 n x2 s) := by
  unfold L_X0_takeOver_49
  exact zwf_I (fun r hr x2 t ht => wB_X0_takeOver_49 σ0 q0 q1 r x2 t hr ht) n x2 s hs
theorem wB_X0_takeOver_10 (σ0 : zg_S) (q0 : Nat) (q1 : Nat) (rec10_ : Int32 → zg_S → Option (Int32 × zg_S)) (x2 : Int32) (s : zg_S) (hrec10_ : ∀ (z0 : Int32) (s : zg_S), wr (W_X0_takeOver q0) σ0 s → zw (W_X0_takeOver q0) σ0 (rec10_ z0 s)) (hs : wr (W_X0_takeOver q0) σ0 s) : zw (W_X0_takeOver q0) σ0 (B_X0_takeOver_10 q0 q1 rec10_ x2 s) := by
  unfold B_X0_takeOver_10
  refine zw_ite ?_ ?_
  · refine zw_up (by unfold W_X0_takeOver; omega) hs (fun σ74 hσ74 => ?_)
    exact wL_X0_takeOver_49 σ0 q0 q1 zfu 0 σ74  hσ74
  · refine zw_in (fun z1 => ?_)
    refine zw_call (w_X4_takeOver ((q0 + 1) + 2 + (Int32.toNatClampNeg x2)) ((q1 + 1) + 2 + (Int32.toNatClampNeg x2)) s) (fun p k h => by unfold W_X4_takeOver at h; unfold W_X0_takeOver; omega) hs (fun r86 σ87 hσ87 => ?_)
    exact hrec10_ (x2 + 1) σ87 hσ87
theorem wL_X0_takeOver_10 (σ0 : zg_S) (q0 : Nat) (q1 : Nat) (n : Nat) (x2 : Int32) (s : zg_S) (hs : wr (W_X0_takeOver q0) σ0 s) : zw (W_X0_takeOver q0) σ0 (L_X0_takeOver_10 q0 q1 n x2 s) := by
  unfold L_X0_takeOver_10
  exact zwf_I (fun r hr x2 t ht => wB_X0_takeOver_10 σ0 q0 q1 r x2 t hr ht) n x2 s hs
theorem w_X0_takeOver (q0 : Nat) (q1 : Nat) (σ0 : zg_S) : zw (W_X0_takeOver q0) σ0 (f_X0_takeOver q0 q1 σ0) := by
  unfold f_X0_takeOver
  refine zw_up (by unfold W_X0_takeOver; omega) wr.rf (fun σ95 hσ95 => ?_)
  exact wL_X0_takeOver_10 σ0 q0 q1 zfu 0 σ95  hσ95
theorem w_X0_widen (q0 : Nat) (a1 : Int32) (σ0 : zg_S) : zw (W_X0_widen q0) σ0 (f_X0_widen q0 a1 σ0) := by
  unfold f_X0_widen
  refine zw_up (by unfold W_X0_widen; omega) wr.rf (fun σ1 hσ1 => ?_)
  refine zw_call (w_X0_lastFirst q0 σ1) (fun p k h => False.elim h) hσ1 (fun r7 σ8 hσ8 => ?_)
  refine zw_call (w_X6_held (σ1 q0 6) 0 r7 σ8) (fun p k h => False.elim h) hσ8 (fun r14 σ15 hσ15 => ?_)
  refine zw_up (by unfold W_X0_widen; omega) hσ15 (fun σ21 hσ21 => ?_)
  exact zw_some hσ21
theorem wB_X1_sortAt_35 (σ0 : zg_S) (a1 : Int32) (x2 : Int32) (s : zg_S) (hs : wr (W_X1_sortAt) σ0 s) : zw (W_X1_sortAt) σ0 (B_X1_sortAt_35 a1 x2 s) := by
  unfold B_X1_sortAt_35
  refine zw_ite ?_ ?_
  · exact zw_some hs
  · refine zw_ite ?_ ?_
    · exact zw_some hs
    · exact zw_some hs
theorem w_X1_sortAt (a1 : Int32) (σ0 : zg_S) : zw (W_X1_sortAt) σ0 (f_X1_sortAt a1 σ0) := by
  unfold f_X1_sortAt
  refine zw_ite ?_ ?_
  · exact zw_some wr.rf
  · refine zw_ite ?_ ?_
    · refine zw_in (fun z1 => ?_)
      refine zw_ite ?_ ?_
      · exact wB_X1_sortAt_35 σ0 a1 (σ0 6 (Int32.toNatClampNeg a1)) σ0  wr.rf
      · refine zw_ite ?_ ?_
        · exact wB_X1_sortAt_35 σ0 a1 (σ0 6 (Int32.toNatClampNeg a1)) σ0  wr.rf
        · exact zw_some wr.rf
    · exact zw_some wr.rf
theorem wB_X1_advance_221 (σ0 : zg_S)  (s : zg_S) (hs : wr (W_X1_advance) σ0 s) : zw (W_X1_advance) σ0 (B_X1_advance_221  s) := by
  unfold B_X1_advance_221
  refine zw_up (by unfold W_X1_advance; omega) hs (fun σ1 hσ1 => ?_)
  exact zw_some hσ1
theorem wB_X1_advance_210 (σ0 : zg_S) (x3 : Int32) (y0 : Int32) (s : zg_S) (hs : wr (W_X1_advance) σ0 s) : zw (W_X1_advance) σ0 (B_X1_advance_210 x3 y0 s) := by
  unfold B_X1_advance_210
  refine zw_ite ?_ ?_
  · refine zw_ite ?_ ?_
    · exact zw_some hs
    · exact wB_X1_advance_221 σ0  s  hs
  · exact wB_X1_advance_221 σ0  s  hs
theorem wB_X1_advance_209 (σ0 : zg_S) (x3 : Int32) (s : zg_S) (hs : wr (W_X1_advance) σ0 s) : zw (W_X1_advance) σ0 (B_X1_advance_209 x3 s) := by
  unfold B_X1_advance_209
  exact wB_X1_advance_210 σ0 x3 0 s  hs
theorem wB_X1_advance_183 (σ0 : zg_S) (y0 : Int32) (s : zg_S) (hs : wr (W_X1_advance) σ0 s) : zw (W_X1_advance) σ0 (B_X1_advance_183 y0 s) := by
  unfold B_X1_advance_183
  refine zw_ite ?_ ?_
  · refine zw_ite ?_ ?_
    · exact wB_X1_advance_209 σ0 y0 s  hs
    · exact wB_X1_advance_210 σ0 y0 1 s  hs
  · exact wB_X1_advance_209 σ0 y0 s  hs
theorem wB_X1_advance_182 (σ0 : zg_S)  (s : zg_S) (hs : wr (W_X1_advance) σ0 s) : zw (W_X1_advance) σ0 (B_X1_advance_182  s) := by
  unfold B_X1_advance_182
  exact wB_X1_advance_183 σ0 0 s  hs
theorem wB_X1_advance_158 (σ0 : zg_S) (x1 : Int32) (x2 : Int32) (s : zg_S) (hs : wr (W_X1_advance) σ0 s) : zw (W_X1_advance) σ0 (B_X1_advance_158 x1 x2 s) := by
  unfold B_X1_advance_158
  refine zw_ite ?_ ?_
  · exact wB_X1_advance_182 σ0  s  hs
  · refine zw_ite ?_ ?_
    · exact wB_X1_advance_182 σ0  s  hs
    · refine zw_ite ?_ ?_
      · exact wB_X1_advance_183 σ0 1 s  hs
      · exact wB_X1_advance_182 σ0  s  hs
theorem wB_X1_advance_111 (σ0 : zg_S) (rec111_ : Int32 → Int32 → zg_S → Option (Int32 × zg_S)) (x1 : Int32) (x2 : Int32) (s : zg_S) (hrec111_ : ∀ (z0 : Int32) (z1 : Int32) (s : zg_S), wr (W_X1_advance) σ0 s → zw (W_X1_advance) σ0 (rec111_ z0 z1 s)) (hs : wr (W_X1_advance) σ0 s) : zw (W_X1_advance) σ0 (B_X1_advance_111 rec111_ x1 x2 s) := by
  unfold B_X1_advance_111
  refine zw_ite ?_ ?_
  · exact wB_X1_advance_158 σ0 x1 x2 s  hs
  · refine zw_ite ?_ ?_
    · exact wB_X1_advance_158 σ0 x1 x2 s  hs
    · refine zw_call (w_X1_sortAt (s 7 5) s) (fun p k h => False.elim h) hs (fun r38 σ39 hσ39 => ?_)
      refine zw_ite ?_ ?_
      · refine zw_up (by unfold W_X1_advance; omega) hσ39 (fun σ48 hσ48 => ?_)
        exact hrec111_ x1 x2 σ48 hσ48
      · exact wB_X1_advance_158 σ0 x1 x2 σ39  hσ39
theorem wL_X1_advance_111 (σ0 : zg_S)  (n : Nat) (x1 : Int32) (x2 : Int32) (s : zg_S) (hs : wr (W_X1_advance) σ0 s) : zw (W_X1_advance) σ0 (L_X1_advance_111  n x1 x2 s) := by
  unfold L_X1_advance_111
  exact zwf_II (fun r hr x1 x2 t ht => wB_X1_advance_111 σ0  r x1 x2 t hr ht) n x1 x2 s hs
theorem wB_X1_advance_73 (σ0 : zg_S) (x1 : Int32) (x2 : Int32) (s : zg_S) (hs : wr (W_X1_advance) σ0 s) : zw (W_X1_advance) σ0 (B_X1_advance_73 x1 x2 s) := by
  unfold B_X1_advance_73
  refine zw_up (by unfold W_X1_advance; omega) hs (fun σ54 hσ54 => ?_)
  refine zw_call (w_X1_sortAt (σ54 7 4) σ54) (fun p k h => False.elim h) hσ54 (fun r60 σ61 hσ61 => ?_)
  refine zw_up (by unfold W_X1_advance; omega) hσ61 (fun σ67 hσ67 => ?_)
  refine zw_ite ?_ ?_
  · exact zw_some hσ67
  · refine zw_up (by unfold W_X1_advance; omega) hσ67 (fun σ75 hσ75 => ?_)
    exact wL_X1_advance_111 σ0 zfu x1 x2 σ75  hσ75
theorem wB_X1_advance_35 (σ0 : zg_S) (rec35_ : Int32 → Int32 → zg_S → Option (Int32 × zg_S)) (x1 : Int32) (x2 : Int32) (s : zg_S) (hrec35_ : ∀ (z0 : Int32) (z1 : Int32) (s : zg_S), wr (W_X1_advance) σ0 s → zw (W_X1_advance) σ0 (rec35_ z0 z1 s)) (hs : wr (W_X1_advance) σ0 s) : zw (W_X1_advance) σ0 (B_X1_advance_35 rec35_ x1 x2 s) := by
  unfold B_X1_advance_35
  refine zw_ite ?_ ?_
  · exact wB_X1_advance_73 σ0 x1 x2 s  hs
  · refine zw_in (fun z1 => ?_)
    refine zw_ite ?_ ?_
    · refine zw_up (by unfold W_X1_advance; omega) hs (fun σ91 hσ91 => ?_)
      exact hrec35_ x1 x2 σ91 hσ91
    · exact wB_X1_advance_73 σ0 x1 x2 s  hs
theorem wL_X1_advance_35 (σ0 : zg_S)  (n : Nat) (x1 : Int32) (x2 : Int32) (s : zg_S) (hs : wr (W_X1_advance) σ0 s) : zw (W_X1_advance) σ0 (L_X1_advance_35  n x1 x2 s) := by
  unfold L_X1_advance_35
  exact zwf_II (fun r hr x1 x2 t ht => wB_X1_advance_35 σ0  r x1 x2 t hr ht) n x1 x2 s hs
theorem wB_X1_advance_21 (σ0 : zg_S) (y0 : Int32) (s : zg_S) (hs : wr (W_X1_advance) σ0 s) : zw (W_X1_advance) σ0 (B_X1_advance_21 y0 s) := by
  unfold B_X1_advance_21
  refine zw_up (by unfold W_X1_advance; omega) hs (fun σ101 hσ101 => ?_)
  exact wL_X1_advance_35 σ0 zfu y0 (s 7 5) σ101  hσ101
theorem wB_X1_advance_16 (σ0 : zg_S)  (s : zg_S) (hs : wr (W_X1_advance) σ0 s) : zw (W_X1_advance) σ0 (B_X1_advance_16  s) := by
  unfold B_X1_advance_16
  exact wB_X1_advance_21 σ0 1 s  hs
theorem w_X1_advance  (σ0 : zg_S) : zw (W_X1_advance) σ0 (f_X1_advance  σ0) := by
  unfold f_X1_advance
  refine zw_ite ?_ ?_
  · exact wB_X1_advance_16 σ0  σ0  wr.rf
  · refine zw_ite ?_ ?_
    · exact wB_X1_advance_16 σ0  σ0  wr.rf
    · exact wB_X1_advance_21 σ0 0 σ0  wr.rf
theorem wB_X1_isWord_28 (σ0 : zg_S) (q1 : Nat) (rec28_ : Int32 → zg_S → Option (Int32 × zg_S)) (x2 : Int32) (s : zg_S) (hrec28_ : ∀ (z0 : Int32) (s : zg_S), wr (W_X1_isWord) σ0 s → zw (W_X1_isWord) σ0 (rec28_ z0 s)) (hs : wr (W_X1_isWord) σ0 s) : zw (W_X1_isWord) σ0 (B_X1_isWord_28 q1 rec28_ x2 s) := by
  unfold B_X1_isWord_28
  refine zw_call (w_J0_length_8abf5 q1 s) (fun p k h => False.elim h) hs (fun r1 σ2 hσ2 => ?_)
  refine zw_ite ?_ ?_
  · exact zw_some hσ2
  · refine zw_call (w_X1_sortAt ((σ2 7 4) + x2) σ2) (fun p k h => False.elim h) hσ2 (fun r11 σ12 hσ12 => ?_)
    refine zw_ite ?_ ?_
    · refine zw_in (fun z1 => ?_)
      refine zw_call (w_J0_charAt_5068e q1 x2 σ12) (fun p k h => False.elim h) hσ12 (fun r24 σ25 hσ25 => ?_)
      refine zw_ite ?_ ?_
      · exact hrec28_ (x2 + 1) σ25 hσ25
      · exact zw_some hσ25
    · exact zw_some hσ12
theorem wL_X1_isWord_28 (σ0 : zg_S) (q1 : Nat) (n : Nat) (x2 : Int32) (s : zg_S) (hs : wr (W_X1_isWord) σ0 s) : zw (W_X1_isWord) σ0 (L_X1_isWord_28 q1 n x2 s) := by
  unfold L_X1_isWord_28
  exact zwf_I (fun r hr x2 t ht => wB_X1_isWord_28 σ0 q1 r x2 t hr ht) n x2 s hs
theorem w_X1_isWord (q1 : Nat) (σ0 : zg_S) : zw (W_X1_isWord) σ0 (f_X1_isWord q1 σ0) := by
  unfold f_X1_isWord
  refine zw_ite ?_ ?_
  · refine zw_call (w_J0_length_8abf5 q1 σ0) (fun p k h => False.elim h) wr.rf (fun r39 σ40 hσ40 => ?_)
    refine zw_ite ?_ ?_
    · exact wL_X1_isWord_28 σ0 q1 zfu 0 σ40  hσ40
    · exact zw_some hσ40
  · exact zw_some wr.rf
theorem w_X1_keyHere  (σ0 : zg_S) : zw (W_X1_keyHere) σ0 (f_X1_keyHere  σ0) := by
  unfold f_X1_keyHere
  refine zw_call (w_X1_isWord 0 σ0) (fun p k h => False.elim h) wr.rf (fun r1 σ2 hσ2 => ?_)
  refine zw_ite ?_ ?_
  · refine zw_call (w_X1_isWord 1 σ2) (fun p k h => False.elim h) hσ2 (fun r10 σ11 hσ11 => ?_)
    refine zw_ite ?_ ?_
    · refine zw_call (w_X1_isWord 2 σ11) (fun p k h => False.elim h) hσ11 (fun r19 σ20 hσ20 => ?_)
      refine zw_ite ?_ ?_
      · exact zw_some hσ20
      · exact zw_some hσ20
    · exact zw_some hσ11
  · exact zw_some hσ2
theorem w_X1_levelOf (a0 : Int32) (σ0 : zg_S) : zw (W_X1_levelOf) σ0 (f_X1_levelOf a0 σ0) := by
  unfold f_X1_levelOf
  refine zw_ite ?_ ?_
  · exact zw_some wr.rf
  · refine zw_ite ?_ ?_
    · exact zw_some wr.rf
    · refine zw_ite ?_ ?_
      · exact zw_some wr.rf
      · refine zw_ite ?_ ?_
        · exact zw_some wr.rf
        · refine zw_ite ?_ ?_
          · exact zw_some wr.rf
          · refine zw_ite ?_ ?_
            · exact zw_some wr.rf
            · refine zw_ite ?_ ?_
              · exact zw_some wr.rf
              · refine zw_ite ?_ ?_
                · exact zw_some wr.rf
                · refine zw_ite ?_ ?_
                  · exact zw_some wr.rf
                  · exact zw_some wr.rf
theorem w_X5_addStep (q0 : Nat) (a1 : Int32) (σ0 : zg_S) : zw (W_X5_addStep q0) σ0 (f_X5_addStep q0 a1 σ0) := by
  unfold f_X5_addStep
  refine zw_ite ?_ ?_
  · exact zw_some wr.rf
  · refine zw_in (fun z1 => ?_)
    refine zw_up (by unfold W_X5_addStep; omega) wr.rf (fun σ7 hσ7 => ?_)
    refine zw_up (by unfold W_X5_addStep; omega) hσ7 (fun σ13 hσ13 => ?_)
    exact zw_some hσ13
theorem w_X5_addLeaf (q0 : Nat) (a1 : Int32) (σ0 : zg_S) : zw (W_X5_addLeaf q0) σ0 (f_X5_addLeaf q0 a1 σ0) := by
  unfold f_X5_addLeaf
  refine zw_up (by unfold W_X5_addLeaf; omega) wr.rf (fun σ1 hσ1 => ?_)
  refine zw_call (w_X5_addStep q0 a1 σ1) (fun p k h => by unfold W_X5_addStep at h; unfold W_X5_addLeaf; omega) hσ1 (fun r7 σ8 hσ8 => ?_)
  exact zw_some hσ8
theorem wB_X1_readNumber_44 (σ0 : zg_S) (x1 : Int32) (s : zg_S) (hs : wr (W_X1_readNumber) σ0 s) : zw (W_X1_readNumber) σ0 (B_X1_readNumber_44 x1 s) := by
  unfold B_X1_readNumber_44
  refine zw_call (w_X5_addLeaf 8 x1 s) (fun p k h => by unfold W_X5_addLeaf at h; unfold W_X1_readNumber; omega) hs (fun r1 σ2 hσ2 => ?_)
  refine zw_call (w_X1_advance σ2) (fun p k h => by unfold W_X1_advance at h; unfold W_X1_readNumber; omega) hσ2 (fun r8 σ9 hσ9 => ?_)
  exact zw_some hσ9
theorem wB_X1_readNumber_7 (σ0 : zg_S) (rec7_ : Int32 → Int32 → zg_S → Option (Int32 × zg_S)) (x1 : Int32) (x2 : Int32) (s : zg_S) (hrec7_ : ∀ (z0 : Int32) (z1 : Int32) (s : zg_S), wr (W_X1_readNumber) σ0 s → zw (W_X1_readNumber) σ0 (rec7_ z0 z1 s)) (hs : wr (W_X1_readNumber) σ0 s) : zw (W_X1_readNumber) σ0 (B_X1_readNumber_7 rec7_ x1 x2 s) := by
  unfold B_X1_readNumber_7
  refine zw_ite ?_ ?_
  · exact wB_X1_readNumber_44 σ0 x1 s  hs
  · refine zw_ite ?_ ?_
    · exact wB_X1_readNumber_44 σ0 x1 s  hs
    · refine zw_in (fun z1 => ?_)
      refine zw_let (fun y24 => ?_)
      exact hrec7_ y24 (x2 + 1) s hs
theorem wL_X1_readNumber_7 (σ0 : zg_S)  (n : Nat) (x1 : Int32) (x2 : Int32) (s : zg_S) (hs : wr (W_X1_readNumber) σ0 s) : zw (W_X1_readNumber) σ0 (L_X1_readNumber_7  n x1 x2 s) := by
  unfold L_X1_readNumber_7
  exact zwf_II (fun r hr x1 x2 t ht => wB_X1_readNumber_7 σ0  r x1 x2 t hr ht) n x1 x2 s hs
theorem w_X1_readNumber  (σ0 : zg_S) : zw (W_X1_readNumber) σ0 (f_X1_readNumber  σ0) := by
  unfold f_X1_readNumber
  exact wL_X1_readNumber_7 σ0 zfu 0 (σ0 7 4) σ0  wr.rf
theorem wB_X1_readName_51 (σ0 : zg_S) (y0 : Int32) (s : zg_S) (hs : wr (W_X1_readName) σ0 s) : zw (W_X1_readName) σ0 (B_X1_readName_51 y0 s) := by
  unfold B_X1_readName_51
  refine zw_ite ?_ ?_
  · refine zw_call (w_X5_addLeaf 8 ((-1) - y0) s) (fun p k h => by unfold W_X5_addLeaf at h; unfold W_X1_readName; omega) hs (fun r5 σ6 hσ6 => ?_)
    refine zw_call (w_X1_advance σ6) (fun p k h => by unfold W_X1_advance at h; unfold W_X1_readName; omega) hσ6 (fun r12 σ13 hσ13 => ?_)
    exact zw_some hσ13
  · exact zw_some hs
theorem wB_X1_readName_50 (σ0 : zg_S)  (s : zg_S) (hs : wr (W_X1_readName) σ0 s) : zw (W_X1_readName) σ0 (B_X1_readName_50  s) := by
  unfold B_X1_readName_50
  exact wB_X1_readName_51 σ0 (-1) s  hs
theorem w_X1_readName  (σ0 : zg_S) : zw (W_X1_readName) σ0 (f_X1_readName  σ0) := by
  unfold f_X1_readName
  refine zw_ite ?_ ?_
  · refine zw_ite ?_ ?_
    · exact wB_X1_readName_50 σ0  σ0  wr.rf
    · refine zw_in (fun z1 => ?_)
      refine zw_call (w_J0_indexOf_0f7a4 (zg_nm (σ0 8 0)) ((Int32.toUInt32 (σ0 6 (Int32.toNatClampNeg (σ0 7 4))) % 65536).toInt32) σ0) (fun p k h => False.elim h) wr.rf (fun r32 σ33 hσ33 => ?_)
      exact wB_X1_readName_51 σ0 r32 σ33  hσ33
  · exact wB_X1_readName_50 σ0  σ0  wr.rf
theorem w_X1_signHere  (σ0 : zg_S) : zw (W_X1_signHere) σ0 (f_X1_signHere  σ0) := by
  unfold f_X1_signHere
  refine zw_ite ?_ ?_
  · refine zw_call (w_X6_within (σ0 7 4) 0 95 σ0) (fun p k h => False.elim h) wr.rf (fun r4 σ5 hσ5 => ?_)
    refine zw_ite ?_ ?_
    · exact zw_some hσ5
    · refine zw_in (fun z1 => ?_)
      exact zw_some hσ5
  · exact zw_some wr.rf
theorem wB_X1_readLevel_24 (σ0 : zg_S) (rec : Nat → Int32 → zg_S → Option (Int32 × zg_S)) (a1 : Int32) (rec24_ : Int32 → zg_S → Option (Int32 × zg_S)) (x2 : Int32) (s : zg_S) (hrec : ∀ (z0 : Nat) (z1 : Int32) (s : zg_S), wr (W_G_rd) σ0 s → zw (W_G_rd) σ0 (rec z0 z1 s)) (hrec24_ : ∀ (z0 : Int32) (s : zg_S), wr (W_G_rd) σ0 s → zw (W_G_rd) σ0 (rec24_ z0 s)) (hs : wr (W_G_rd) σ0 s) : zw (W_G_rd) σ0 (B_X1_readLevel_24 rec a1 rec24_ x2 s) := by
  unfold B_X1_readLevel_24
  refine zw_ite ?_ ?_
  · exact zw_some hs
  · refine zw_call (w_X1_signHere s) (fun p k h => False.elim h) hs (fun r4 σ5 hσ5 => ?_)
    refine zw_call (w_X1_levelOf r4 σ5) (fun p k h => False.elim h) hσ5 (fun r13 σ14 hσ14 => ?_)
    refine zw_ite ?_ ?_
    · refine zw_call (w_X1_advance σ14) (fun p k h => by unfold W_X1_advance at h; unfold W_G_rd; omega) hσ14 (fun r22 σ23 hσ23 => ?_)
      refine zw_rec (hrec 0 (a1 + 1) σ23 hσ23) (fun r29 σ30 hσ30 => ?_)
      refine zw_ite ?_ ?_
      · exact zw_some hσ30
      · refine zw_call (w_X5_addStep 8 ((-1000) - r4) σ30) (fun p k h => by unfold W_X5_addStep at h; unfold W_G_rd; omega) hσ30 (fun r38 σ39 hσ39 => ?_)
        refine zw_ite ?_ ?_
        · exact zw_some hσ39
        · exact hrec24_ (x2 + 1) σ39 hσ39
    · exact zw_some hσ14
theorem wL_X1_readLevel_24 (σ0 : zg_S) (rec : Nat → Int32 → zg_S → Option (Int32 × zg_S)) (a1 : Int32) (n : Nat) (x2 : Int32) (s : zg_S) (hrec : ∀ (z0 : Nat) (z1 : Int32) (s : zg_S), wr (W_G_rd) σ0 s → zw (W_G_rd) σ0 (rec z0 z1 s)) (hs : wr (W_G_rd) σ0 s) : zw (W_G_rd) σ0 (L_X1_readLevel_24 rec a1 n x2 s) := by
  unfold L_X1_readLevel_24
  exact zwf_I (fun r hr x2 t ht => wB_X1_readLevel_24 σ0 rec a1 r x2 t hrec hr ht) n x2 s hs
theorem w_X1_readLevel (σ0 : zg_S) (rec : Nat → Int32 → zg_S → Option (Int32 × zg_S)) (a1 : Int32) (s : zg_S) (hrec : ∀ (z0 : Nat) (z1 : Int32) (s : zg_S), wr (W_G_rd) σ0 s → zw (W_G_rd) σ0 (rec z0 z1 s)) (hs : wr (W_G_rd) σ0 s) : zw (W_G_rd) σ0 (f_X1_readLevel rec a1 s) := by
  unfold f_X1_readLevel
  refine zw_ite ?_ ?_
  · refine zw_rec (hrec 0 (a1 + 1) s hs) (fun r54 σ55 hσ55 => ?_)
    refine zw_ite ?_ ?_
    · exact zw_some hσ55
    · exact wL_X1_readLevel_24 σ0 rec a1 zfu 0 σ55 hrec hσ55
  · refine zw_rec (hrec 1 0 s hs) (fun r67 σ68 hσ68 => ?_)
    refine zw_ite ?_ zw_none
    exact zw_some hσ68
theorem w_X1_readPiece (σ0 : zg_S) (rec : Nat → Int32 → zg_S → Option (Int32 × zg_S)) (s : zg_S) (hrec : ∀ (z0 : Nat) (z1 : Int32) (s : zg_S), wr (W_G_rd) σ0 s → zw (W_G_rd) σ0 (rec z0 z1 s)) (hs : wr (W_G_rd) σ0 s) : zw (W_G_rd) σ0 (f_X1_readPiece rec s) := by
  unfold f_X1_readPiece
  refine zw_ite ?_ ?_
  · refine zw_call (w_X1_readName s) (fun p k h => by unfold W_X1_readName at h; unfold W_G_rd; omega) hs (fun r3 σ4 hσ4 => ?_)
    refine zw_ite ?_ zw_none
    exact zw_some hσ4
  · refine zw_ite ?_ ?_
    · refine zw_call (w_X1_readNumber s) (fun p k h => by unfold W_X1_readNumber at h; unfold W_G_rd; omega) hs (fun r15 σ16 hσ16 => ?_)
      refine zw_ite ?_ zw_none
      exact zw_some hσ16
    · refine zw_call (w_X1_signHere s) (fun p k h => False.elim h) hs (fun r27 σ28 hσ28 => ?_)
      refine zw_ite ?_ ?_
      · refine zw_rec (hrec 2 0 σ28 hσ28) (fun r36 σ37 hσ37 => ?_)
        refine zw_ite ?_ zw_none
        exact zw_some hσ37
      · refine zw_ite ?_ ?_
        · refine zw_rec (hrec 3 0 σ28 hσ28) (fun r48 σ49 hσ49 => ?_)
          refine zw_ite ?_ zw_none
          exact zw_some hσ49
        · exact zw_some hσ28
theorem w_X1_readNot (σ0 : zg_S) (rec : Nat → Int32 → zg_S → Option (Int32 × zg_S)) (s : zg_S) (hrec : ∀ (z0 : Nat) (z1 : Int32) (s : zg_S), wr (W_G_rd) σ0 s → zw (W_G_rd) σ0 (rec z0 z1 s)) (hs : wr (W_G_rd) σ0 s) : zw (W_G_rd) σ0 (f_X1_readNot rec s) := by
  unfold f_X1_readNot
  refine zw_ite ?_ ?_
  · refine zw_up (by unfold W_G_rd; omega) hs (fun σ3 hσ3 => ?_)
    refine zw_call (w_X1_advance σ3) (fun p k h => by unfold W_X1_advance at h; unfold W_G_rd; omega) hσ3 (fun r9 σ10 hσ10 => ?_)
    refine zw_rec (hrec 1 0 σ10 hσ10) (fun r16 σ17 hσ17 => ?_)
    refine zw_ite ?_ ?_
    · exact zw_some hσ17
    · refine zw_up (by unfold W_G_rd; omega) hσ17 (fun σ25 hσ25 => ?_)
      refine zw_call (w_X5_addStep 8 (-1033) σ25) (fun p k h => by unfold W_X5_addStep at h; unfold W_G_rd; omega) hσ25 (fun r31 σ32 hσ32 => ?_)
      exact zw_some hσ32
  · exact zw_some hs
theorem w_X1_readBracket (σ0 : zg_S) (rec : Nat → Int32 → zg_S → Option (Int32 × zg_S)) (s : zg_S) (hrec : ∀ (z0 : Nat) (z1 : Int32) (s : zg_S), wr (W_G_rd) σ0 s → zw (W_G_rd) σ0 (rec z0 z1 s)) (hs : wr (W_G_rd) σ0 s) : zw (W_G_rd) σ0 (f_X1_readBracket rec s) := by
  unfold f_X1_readBracket
  refine zw_ite ?_ ?_
  · refine zw_up (by unfold W_G_rd; omega) hs (fun σ3 hσ3 => ?_)
    refine zw_call (w_X1_advance σ3) (fun p k h => by unfold W_X1_advance at h; unfold W_G_rd; omega) hσ3 (fun r9 σ10 hσ10 => ?_)
    refine zw_rec (hrec 0 0 σ10 hσ10) (fun r16 σ17 hσ17 => ?_)
    refine zw_ite ?_ ?_
    · exact zw_some hσ17
    · refine zw_call (w_X1_signHere σ17) (fun p k h => False.elim h) hσ17 (fun r26 σ27 hσ27 => ?_)
      refine zw_ite ?_ ?_
      · refine zw_up (by unfold W_G_rd; omega) hσ27 (fun σ35 hσ35 => ?_)
        refine zw_call (w_X1_advance σ35) (fun p k h => by unfold W_X1_advance at h; unfold W_G_rd; omega) hσ35 (fun r41 σ42 hσ42 => ?_)
        exact zw_some hσ42
      · exact zw_some hσ27
  · exact zw_some hs
theorem wG_rd (σ0 : zg_S) : ∀ (d tag : Nat) (z0 : Int32) (s : zg_S), wr W_G_rd σ0 s → zw W_G_rd σ0 (G_rd d tag z0 s) := by
  intro d
  induction d with
  | zero => intro tag z0 s _; exact zw_none
  | succ d ih =>
    intro tag z0 s hs
    match tag with
    | 0 => exact w_X1_readLevel σ0 (G_rd d) z0 s ih hs
    | 1 => exact w_X1_readPiece σ0 (G_rd d)  s ih hs
    | 2 => exact w_X1_readNot σ0 (G_rd d)  s ih hs
    | n + 3 => exact w_X1_readBracket σ0 (G_rd d)  s ih hs
theorem w_G_rd (d tag : Nat) (z0 : Int32) (σ0 : zg_S) : zw W_G_rd σ0 (G_rd d tag z0 σ0) := wG_rd σ0 d tag z0 σ0 wr.rf
theorem w_X5_begin (q0 : Nat) (a1 : Int32) (σ0 : zg_S) : zw (W_X5_begin q0) σ0 (f_X5_begin q0 a1 σ0) := by
  unfold f_X5_begin
  refine zw_up (by unfold W_X5_begin; omega) wr.rf (fun σ1 hσ1 => ?_)
  refine zw_up (by unfold W_X5_begin; omega) hσ1 (fun σ7 hσ7 => ?_)
  refine zw_up (by unfold W_X5_begin; omega) hσ7 (fun σ13 hσ13 => ?_)
  exact zw_some hσ13
theorem w_X1_readText (a1 : Int32) (σ0 : zg_S) : zw (W_X1_readText) σ0 (f_X1_readText a1 σ0) := by
  unfold f_X1_readText
  refine zw_call (w_X6_held a1 0 96 σ0) (fun p k h => False.elim h) wr.rf (fun r1 σ2 hσ2 => ?_)
  refine zw_up (by unfold W_X1_readText; omega) hσ2 (fun σ8 hσ8 => ?_)
  refine zw_up (by unfold W_X1_readText; omega) hσ8 (fun σ14 hσ14 => ?_)
  refine zw_up (by unfold W_X1_readText; omega) hσ14 (fun σ20 hσ20 => ?_)
  refine zw_up (by unfold W_X1_readText; omega) hσ20 (fun σ26 hσ26 => ?_)
  refine zw_up (by unfold W_X1_readText; omega) hσ26 (fun σ32 hσ32 => ?_)
  refine zw_call (w_X1_advance σ32) (fun p k h => by unfold W_X1_advance at h; unfold W_X1_readText; omega) hσ32 (fun r38 σ39 hσ39 => ?_)
  refine zw_call (w_X1_keyHere σ39) (fun p k h => False.elim h) hσ39 (fun r45 σ46 hσ46 => ?_)
  refine zw_ite ?_ ?_
  · exact zw_some hσ46
  · refine zw_call (w_X5_begin 8 r45 σ46) (fun p k h => by unfold W_X5_begin at h; unfold W_X1_readText; omega) hσ46 (fun r56 σ57 hσ57 => ?_)
    refine zw_call (w_X1_advance σ57) (fun p k h => by unfold W_X1_advance at h; unfold W_X1_readText; omega) hσ57 (fun r63 σ64 hσ64 => ?_)
    refine zw_call (w_G_rd 128 0 0 σ64) (fun p k h => by unfold W_G_rd at h; unfold W_X1_readText; omega) hσ64 (fun r70 σ71 hσ71 => ?_)
    refine zw_ite ?_ ?_
    · exact zw_some hσ71
    · refine zw_ite ?_ ?_
      · exact zw_some hσ71
      · exact zw_some hσ71
end
section
theorem wB_X2_become_18 (σ0 : zg_S) (q0 : Nat) (a1 : Int32) (a2 : Int32) (rec18_ : Int32 → zg_S → Option (Int32 × zg_S)) (x3 : Int32) (s : zg_S) (hrec18_ : ∀ (z0 : Int32) (s : zg_S), wr (W_X2_become q0) σ0 s → zw (W_X2_become q0) σ0 (rec18_ z0 s)) (hs : wr (W_X2_become q0) σ0 s) : zw (W_X2_become q0) σ0 (B_X2_become_18 q0 a1 a2 rec18_ x3 s) := by
  unfold B_X2_become_18
  refine zw_ite ?_ ?_
  · exact zw_some hs
  · refine zw_in (fun z1 => ?_)
    refine zw_up (by unfold W_X2_become; omega) hs (fun σ7 hσ7 => ?_)
    exact hrec18_ (x3 + 1) σ7 hσ7
theorem wL_X2_become_18 (σ0 : zg_S) (q0 : Nat) (a1 : Int32) (a2 : Int32) (n : Nat) (x3 : Int32) (s : zg_S) (hs : wr (W_X2_become q0) σ0 s) : zw (W_X2_become q0) σ0 (L_X2_become_18 q0 a1 a2 n x3 s) := by
  unfold L_X2_become_18
  exact zwf_I (fun r hr x3 t ht => wB_X2_become_18 σ0 q0 a1 a2 r x3 t hr ht) n x3 s hs
theorem w_X2_become (q0 : Nat) (a1 : Int32) (a2 : Int32) (σ0 : zg_S) : zw (W_X2_become q0) σ0 (f_X2_become q0 a1 a2 σ0) := by
  unfold f_X2_become
  refine zw_up (by unfold W_X2_become; omega) wr.rf (fun σ15 hσ15 => ?_)
  refine zw_call (w_X6_held a2 0 24 σ15) (fun p k h => False.elim h) hσ15 (fun r21 σ22 hσ22 => ?_)
  refine zw_up (by unfold W_X2_become; omega) hσ22 (fun σ28 hσ28 => ?_)
  exact wL_X2_become_18 σ0 q0 a1 a2 zfu 0 σ28  hσ28
theorem w_X2_hasPlaces (q0 : Nat) (a1 : Int32) (a2 : Int32) (σ0 : zg_S) : zw (W_X2_hasPlaces) σ0 (f_X2_hasPlaces q0 a1 a2 σ0) := by
  unfold f_X2_hasPlaces
  refine zw_ite ?_ ?_
  · exact zw_some wr.rf
  · refine zw_ite ?_ ?_
    · exact zw_some wr.rf
    · refine zw_ite ?_ ?_
      · exact zw_some wr.rf
      · exact zw_some wr.rf
theorem w_X2_isMissing (q0 : Nat) (σ0 : zg_S) : zw (W_X2_isMissing) σ0 (f_X2_isMissing q0 σ0) := by
  unfold f_X2_isMissing
  refine zw_ite ?_ ?_
  · exact zw_some wr.rf
  · exact zw_some wr.rf
theorem w_X2_takeOver (q0 : Nat) (q1 : Nat) (σ0 : zg_S) : zw (W_X2_takeOver q0) σ0 (f_X2_takeOver q0 q1 σ0) := by
  unfold f_X2_takeOver
  refine zw_up (by unfold W_X2_takeOver; omega) wr.rf (fun σ1 hσ1 => ?_)
  refine zw_up (by unfold W_X2_takeOver; omega) hσ1 (fun σ7 hσ7 => ?_)
  refine zw_ite ?_ zw_none
  refine zw_row (fun j => by unfold W_X2_takeOver; omega) hσ7 (fun σ19 hσ19 => ?_)
  exact zw_some hσ19
theorem w_X3_refuses (q0 : Nat) (a1 : Int32) (σ0 : zg_S) : zw (W_X3_refuses) σ0 (f_X3_refuses q0 a1 σ0) := by
  unfold f_X3_refuses
  refine zw_ite ?_ ?_
  · exact zw_some wr.rf
  · refine zw_ite ?_ ?_
    · exact zw_some wr.rf
    · exact zw_some wr.rf
theorem wB_X4_isOf_7 (σ0 : zg_S) (q0 : Nat) (a1 : Int32) (rec7_ : Int32 → Int32 → zg_S → Option (Int32 × zg_S)) (x2 : Int32) (x3 : Int32) (s : zg_S) (hrec7_ : ∀ (z0 : Int32) (z1 : Int32) (s : zg_S), wr (W_X4_isOf) σ0 s → zw (W_X4_isOf) σ0 (rec7_ z0 z1 s)) (hs : wr (W_X4_isOf) σ0 s) : zw (W_X4_isOf) σ0 (B_X4_isOf_7 q0 a1 rec7_ x2 x3 s) := by
  unfold B_X4_isOf_7
  refine zw_ite ?_ ?_
  · exact zw_some hs
  · refine zw_call (w_X6_within x2 0 5 s) (fun p k h => False.elim h) hs (fun r4 σ5 hσ5 => ?_)
    refine zw_ite ?_ ?_
    · exact zw_some hσ5
    · refine zw_ite ?_ ?_
      · exact zw_some hσ5
      · refine zw_in (fun z1 => ?_)
        refine zw_let (fun y19 => ?_)
        exact hrec7_ y19 (x3 + 1) σ5 hσ5
theorem wL_X4_isOf_7 (σ0 : zg_S) (q0 : Nat) (a1 : Int32) (n : Nat) (x2 : Int32) (x3 : Int32) (s : zg_S) (hs : wr (W_X4_isOf) σ0 s) : zw (W_X4_isOf) σ0 (L_X4_isOf_7 q0 a1 n x2 x3 s) := by
  unfold L_X4_isOf_7
  exact zwf_II (fun r hr x2 x3 t ht => wB_X4_isOf_7 σ0 q0 a1 r x2 x3 t hr ht) n x2 x3 s hs
theorem w_X4_isOf (q0 : Nat) (a1 : Int32) (σ0 : zg_S) : zw (W_X4_isOf) σ0 (f_X4_isOf q0 a1 σ0) := by
  unfold f_X4_isOf
  exact wL_X4_isOf_7 σ0 q0 a1 zfu (σ0 q0 0) 0 σ0  wr.rf
theorem w_X4_worth (q0 : Nat) (σ0 : zg_S) : zw (W_X4_worth) σ0 (f_X4_worth q0 σ0) := by
  unfold f_X4_worth
  refine zw_ite ?_ ?_
  · exact zw_some wr.rf
  · refine zw_ite ?_ ?_
    · exact zw_some wr.rf
    · refine zw_ite ?_ ?_
      · exact zw_some wr.rf
      · refine zw_ite ?_ ?_
        · exact zw_some wr.rf
        · refine zw_ite ?_ ?_
          · exact zw_some wr.rf
          · exact zw_some wr.rf
theorem w_X6_isStall (a1 : Int32) (σ0 : zg_S) : zw (W_X6_isStall) σ0 (f_X6_isStall a1 σ0) := by
  unfold f_X6_isStall
  refine zw_call (w_X6_within a1 0 ((σ0 153 3) - 1) σ0) (fun p k h => False.elim h) wr.rf (fun r1 σ2 hσ2 => ?_)
  refine zw_ite ?_ zw_none
  exact zw_some hσ2
theorem w_X6_as (a1 : Int32) (a2 : Int32) (σ0 : zg_S) : zw (W_X6_as) σ0 (f_X6_as a1 a2 σ0) := by
  unfold f_X6_as
  refine zw_call (w_X6_isStall a1 σ0) (fun p k h => False.elim h) wr.rf (fun r1 σ2 hσ2 => ?_)
  refine zw_ite ?_ ?_
  · exact zw_some hσ2
  · refine zw_call (w_X6_within a2 0 5 σ2) (fun p k h => False.elim h) hσ2 (fun r11 σ12 hσ12 => ?_)
    refine zw_ite ?_ ?_
    · exact zw_some hσ12
    · refine zw_in (fun z1 => ?_)
      refine zw_call (w_X4_isOf (154 + 2 + (Int32.toNatClampNeg a1)) a2 σ12) (fun p k h => False.elim h) hσ12 (fun r25 σ26 hσ26 => ?_)
      refine zw_ite ?_ ?_
      · exact zw_some hσ26
      · exact zw_some hσ26
theorem w_X6_isSlot (a0 : Int32) (σ0 : zg_S) : zw (W_X6_isSlot) σ0 (f_X6_isSlot a0 σ0) := by
  unfold f_X6_isSlot
  refine zw_call (w_X6_within a0 0 4 σ0) (fun p k h => False.elim h) wr.rf (fun r1 σ2 hσ2 => ?_)
  refine zw_ite ?_ zw_none
  exact zw_some hσ2
theorem w_X6_ask (a1 : Int32) (a2 : Int32) (σ0 : zg_S) : zw (W_X6_ask) σ0 (f_X6_ask a1 a2 σ0) := by
  unfold f_X6_ask
  refine zw_call (w_X6_isSlot a1 σ0) (fun p k h => False.elim h) wr.rf (fun r1 σ2 hσ2 => ?_)
  refine zw_ite ?_ ?_
  · exact zw_some hσ2
  · refine zw_call (w_X6_within a2 0 5 σ2) (fun p k h => False.elim h) hσ2 (fun r11 σ12 hσ12 => ?_)
    refine zw_ite ?_ ?_
    · exact zw_some hσ12
    · refine zw_in (fun z1 => ?_)
      refine zw_call (w_X3_refuses (61 + 4 * (Int32.toNatClampNeg a1)) 1 σ12) (fun p k h => False.elim h) hσ12 (fun r23 σ24 hσ24 => ?_)
      refine zw_ite ?_ ?_
      · refine zw_call (w_X4_isOf ((61 + 4 * (Int32.toNatClampNeg a1)) + 1) a2 σ24) (fun p k h => False.elim h) hσ24 (fun r36 σ37 hσ37 => ?_)
        refine zw_ite ?_ ?_
        · exact zw_some hσ37
        · refine zw_call (w_X4_worth ((61 + 4 * (Int32.toNatClampNeg a1)) + 1) σ37) (fun p k h => False.elim h) hσ37 (fun r46 σ47 hσ47 => ?_)
          exact zw_some hσ47
      · exact zw_some hσ24
theorem w_X6_back  (σ0 : zg_S) : zw (W_X6_back) σ0 (f_X6_back  σ0) := by
  unfold f_X6_back
  refine zw_ite ?_ ?_
  · exact zw_some wr.rf
  · refine zw_call (w_X0_takeOver 153 177 σ0) (fun p k h => by unfold W_X0_takeOver at h; unfold W_X6_back; omega) wr.rf (fun r3 σ4 hσ4 => ?_)
    exact zw_some hσ4
theorem wB_X6_thinkOn_2 (σ0 : zg_S) (a1 : Int32) (rec2_ : Int32 → zg_S → Option (Int32 × zg_S)) (x2 : Int32) (s : zg_S) (hrec2_ : ∀ (z0 : Int32) (s : zg_S), wr (W_X6_thinkOn) σ0 s → zw (W_X6_thinkOn) σ0 (rec2_ z0 s)) (hs : wr (W_X6_thinkOn) σ0 s) : zw (W_X6_thinkOn) σ0 (B_X6_thinkOn_2 a1 rec2_ x2 s) := by
  unfold B_X6_thinkOn_2
  refine zw_ite ?_ ?_
  · exact zw_some hs
  · refine zw_call (w_X0_hauling 165 s) (fun p k h => by unfold W_X0_hauling at h; unfold W_X6_thinkOn; omega) hs (fun r4 σ5 hσ5 => ?_)
    refine zw_call (w_X0_passHour 165 r4 σ5) (fun p k h => by unfold W_X0_passHour at h; unfold W_X6_thinkOn; omega) hσ5 (fun r11 σ12 hσ12 => ?_)
    exact hrec2_ (x2 + 1) σ12 hσ12
theorem wL_X6_thinkOn_2 (σ0 : zg_S) (a1 : Int32) (n : Nat) (x2 : Int32) (s : zg_S) (hs : wr (W_X6_thinkOn) σ0 s) : zw (W_X6_thinkOn) σ0 (L_X6_thinkOn_2 a1 n x2 s) := by
  unfold L_X6_thinkOn_2
  exact zwf_I (fun r hr x2 t ht => wB_X6_thinkOn_2 σ0 a1 r x2 t hr ht) n x2 s hs
theorem w_X6_thinkOn (a1 : Int32) (σ0 : zg_S) : zw (W_X6_thinkOn) σ0 (f_X6_thinkOn a1 σ0) := by
  unfold f_X6_thinkOn
  exact wL_X6_thinkOn_2 σ0 a1 zfu 0 σ0  wr.rf
theorem w_X6_behind (a1 : Int32) (a2 : Int32) (σ0 : zg_S) : zw (W_X6_behind) σ0 (f_X6_behind a1 a2 σ0) := by
  unfold f_X6_behind
  refine zw_call (w_X6_within a1 0 100 σ0) (fun p k h => False.elim h) wr.rf (fun r1 σ2 hσ2 => ?_)
  refine zw_ite ?_ ?_
  · exact zw_some hσ2
  · refine zw_call (w_X6_within a2 0 3 σ2) (fun p k h => False.elim h) hσ2 (fun r11 σ12 hσ12 => ?_)
    refine zw_ite ?_ ?_
    · exact zw_some hσ12
    · refine zw_call (w_X0_takeOver 165 153 σ12) (fun p k h => by unfold W_X0_takeOver at h; unfold W_X6_behind; omega) hσ12 (fun r20 σ21 hσ21 => ?_)
      refine zw_call (w_X6_thinkOn a1 σ21) (fun p k h => by unfold W_X6_thinkOn at h; unfold W_X6_behind; omega) hσ21 (fun r27 σ28 hσ28 => ?_)
      refine zw_ite ?_ ?_
      · exact zw_some hσ28
      · refine zw_ite ?_ ?_
        · exact zw_some hσ28
        · refine zw_ite ?_ ?_
          · exact zw_some hσ28
          · exact zw_some hσ28
theorem wB_X6_tryHaulings_59 (σ0 : zg_S) (rec : Nat → Int32 → Int32 → Int32 → zg_S → Option (Int32 × zg_S)) (a1 : Int32) (a2 : Int32) (a3 : Int32) (rec59_ : Nat → Int32 → zg_S → Option (Int32 × zg_S)) (q4v : Nat) (x5 : Int32) (s : zg_S) (hrec : ∀ (z0 : Nat) (z1 : Int32) (z2 : Int32) (z3 : Int32) (s : zg_S), wr (W_G_th) σ0 s → zw (W_G_th) σ0 (rec z0 z1 z2 z3 s)) (hrec59_ : ∀ (z0 : Nat) (z1 : Int32) (s : zg_S), wr (W_G_th) σ0 s → zw (W_G_th) σ0 (rec59_ z0 z1 s)) (hs : wr (W_G_th) σ0 s) : zw (W_G_th) σ0 (B_X6_tryHaulings_59 rec a1 a2 a3 rec59_ q4v x5 s) := by
  unfold B_X6_tryHaulings_59
  refine zw_ite ?_ ?_
  · exact zw_some hs
  · refine zw_in (fun z1 => ?_)
    refine zw_call (w_X0_takeOver (81 + 12 * (Int32.toNatClampNeg (a1 + 1))) q4v s) (fun p k h => by unfold W_X0_takeOver at h; unfold W_G_th; omega) hs (fun r19 σ20 hσ20 => ?_)
    refine zw_call (w_X0_passHour (81 + 12 * (Int32.toNatClampNeg (a1 + 1))) x5 σ20) (fun p k h => by unfold W_X0_passHour at h; unfold W_G_th; omega) hσ20 (fun r26 σ27 hσ27 => ?_)
    refine zw_rec (hrec 0 (a1 + 1) a2 ((a3 * 3) + x5) σ27 hσ27) (fun r33 σ34 hσ34 => ?_)
    exact hrec59_ q4v (x5 + 1) σ34 hσ34
theorem wL_X6_tryHaulings_59 (σ0 : zg_S) (rec : Nat → Int32 → Int32 → Int32 → zg_S → Option (Int32 × zg_S)) (a1 : Int32) (a2 : Int32) (a3 : Int32) (n : Nat) (q4v : Nat) (x5 : Int32) (s : zg_S) (hrec : ∀ (z0 : Nat) (z1 : Int32) (z2 : Int32) (z3 : Int32) (s : zg_S), wr (W_G_th) σ0 s → zw (W_G_th) σ0 (rec z0 z1 z2 z3 s)) (hs : wr (W_G_th) σ0 s) : zw (W_G_th) σ0 (L_X6_tryHaulings_59 rec a1 a2 a3 n q4v x5 s) := by
  unfold L_X6_tryHaulings_59
  exact zwf_NI (fun r hr q4v x5 t ht => wB_X6_tryHaulings_59 σ0 rec a1 a2 a3 r q4v x5 t hrec hr ht) n q4v x5 s hs
theorem w_X6_tryHaulings (σ0 : zg_S) (rec : Nat → Int32 → Int32 → Int32 → zg_S → Option (Int32 × zg_S)) (a1 : Int32) (a2 : Int32) (a3 : Int32) (s : zg_S) (hrec : ∀ (z0 : Nat) (z1 : Int32) (z2 : Int32) (z3 : Int32) (s : zg_S), wr (W_G_th) σ0 s → zw (W_G_th) σ0 (rec z0 z1 z2 z3 s)) (hs : wr (W_G_th) σ0 s) : zw (W_G_th) σ0 (f_X6_tryHaulings rec a1 a2 a3 s) := by
  unfold f_X6_tryHaulings
  refine zw_ite ?_ ?_
  · exact zw_some hs
  · refine zw_ite ?_ ?_
    · refine zw_in (fun z1 => ?_)
      refine zw_ite ?_ ?_
      · refine zw_ite ?_ ?_
        · unfold B_X6_tryHaulings_41
          refine zw_up (by unfold W_G_th; omega) hs (fun σ1 hσ1 => ?_)
          refine zw_up (by unfold W_G_th; omega) hσ1 (fun σ7 hσ7 => ?_)
          exact zw_some hσ7
        · refine zw_ite ?_ ?_
          · unfold B_X6_tryHaulings_41
            refine zw_up (by unfold W_G_th; omega) hs (fun σ1 hσ1 => ?_)
            refine zw_up (by unfold W_G_th; omega) hσ1 (fun σ7 hσ7 => ?_)
            exact zw_some hσ7
          · exact wL_X6_tryHaulings_59 σ0 rec a1 a2 a3 zfu (81 + 12 * (Int32.toNatClampNeg a1)) 0 s hrec hs
      · exact zw_some hs
    · exact zw_some hs
theorem wG_th (σ0 : zg_S) : ∀ (d tag : Nat) (z0 : Int32) (z1 : Int32) (z2 : Int32) (s : zg_S), wr W_G_th σ0 s → zw W_G_th σ0 (G_th d tag z0 z1 z2 s) := by
  intro d
  induction d with
  | zero => intro tag z0 z1 z2 s _; exact zw_none
  | succ d ih =>
    intro tag z0 z1 z2 s hs
    exact w_X6_tryHaulings σ0 (G_th d) z0 z1 z2 s ih hs
theorem w_G_th (d tag : Nat) (z0 : Int32) (z1 : Int32) (z2 : Int32) (σ0 : zg_S) : zw W_G_th σ0 (G_th d tag z0 z1 z2 σ0) := wG_th σ0 d tag z0 z1 z2 σ0 wr.rf
theorem w_X6_best (a1 : Int32) (a2 : Int32) (σ0 : zg_S) : zw (W_X6_best) σ0 (f_X6_best a1 a2 σ0) := by
  unfold f_X6_best
  refine zw_call (w_X6_within a1 1 5 σ0) (fun p k h => False.elim h) wr.rf (fun r1 σ2 hσ2 => ?_)
  refine zw_ite ?_ ?_
  · exact zw_some hσ2
  · refine zw_call (w_X6_within a2 0 1 σ2) (fun p k h => False.elim h) hσ2 (fun r11 σ12 hσ12 => ?_)
    refine zw_ite ?_ ?_
    · exact zw_some hσ12
    · refine zw_up (by unfold W_X6_best; omega) hσ12 (fun σ20 hσ20 => ?_)
      refine zw_up (by unfold W_X6_best; omega) hσ20 (fun σ26 hσ26 => ?_)
      refine zw_call (w_X0_takeOver 81 153 σ26) (fun p k h => by unfold W_X0_takeOver at h; unfold W_X6_best; omega) hσ26 (fun r32 σ33 hσ33 => ?_)
      refine zw_call (w_G_th 8 0 0 a1 0 σ33) (fun p k h => by unfold W_G_th at h; unfold W_X6_best; omega) hσ33 (fun r39 σ40 hσ40 => ?_)
      refine zw_ite ?_ ?_
      · exact zw_some hσ40
      · exact zw_some hσ40
theorem w_X6_book (a1 : Int32) (σ0 : zg_S) : zw (W_X6_book) σ0 (f_X6_book a1 σ0) := by
  unfold f_X6_book
  refine zw_ite ?_ ?_
  · exact zw_some wr.rf
  · refine zw_ite ?_ ?_
    · exact zw_some wr.rf
    · refine zw_ite ?_ ?_
      · exact zw_some wr.rf
      · refine zw_ite ?_ ?_
        · refine zw_call (w_X0_allGoods 153 σ0) (fun p k h => False.elim h) wr.rf (fun r12 σ13 hσ13 => ?_)
          exact zw_some hσ13
        · exact zw_some wr.rf
theorem wB_X6_check_113 (σ0 : zg_S) (a1 : Int32) (x5 : Int32) (s : zg_S) (hs : wr (W_X6_check) σ0 s) : zw (W_X6_check) σ0 (B_X6_check_113 a1 x5 s) := by
  unfold B_X6_check_113
  exact zw_some hs
theorem wB_X6_check_145 (σ0 : zg_S) (a1 : Int32) (x5 : Int32) (s : zg_S) (hs : wr (W_X6_check) σ0 s) : zw (W_X6_check) σ0 (B_X6_check_145 a1 x5 s) := by
  unfold B_X6_check_145
  exact zw_some hs
theorem wB_X6_check_64 (σ0 : zg_S) (a1 : Int32) (rec64_ : Int32 → Int32 → Int32 → zg_S → Option (Int32 × zg_S)) (x2 : Int32) (x3 : Int32) (x4 : Int32) (s : zg_S) (hrec64_ : ∀ (z0 : Int32) (z1 : Int32) (z2 : Int32) (s : zg_S), wr (W_X6_check) σ0 s → zw (W_X6_check) σ0 (rec64_ z0 z1 z2 s)) (hs : wr (W_X6_check) σ0 s) : zw (W_X6_check) σ0 (B_X6_check_64 a1 rec64_ x2 x3 x4 s) := by
  unfold B_X6_check_64
  refine zw_ite ?_ ?_
  · refine zw_ite ?_ ?_
    · exact zw_some hs
    · exact zw_some hs
  · refine zw_call (w_X0_hauling 165 s) (fun p k h => by unfold W_X0_hauling at h; unfold W_X6_check; omega) hs (fun r9 σ10 hσ10 => ?_)
    refine zw_call (w_X0_passHour 165 r9 σ10) (fun p k h => by unfold W_X0_passHour at h; unfold W_X6_check; omega) hσ10 (fun r16 σ17 hσ17 => ?_)
    refine zw_ite ?_ ?_
    · exact wB_X6_check_113 σ0 a1 (2 * x4) σ17  hσ17
    · refine zw_in (fun z1 => ?_)
      refine zw_ite ?_ ?_
      · refine zw_ite ?_ ?_
        · exact wB_X6_check_145 σ0 a1 (2 * x4) σ17  hσ17
        · refine zw_in (fun z2 => ?_)
          refine zw_ite ?_ ?_
          · exact hrec64_ x2 x3 (x4 + 1) σ17 hσ17
          · exact wB_X6_check_145 σ0 a1 (2 * x4) σ17  hσ17
      · exact wB_X6_check_113 σ0 a1 (2 * x4) σ17  hσ17
theorem wL_X6_check_64 (σ0 : zg_S) (a1 : Int32) (n : Nat) (x2 : Int32) (x3 : Int32) (x4 : Int32) (s : zg_S) (hs : wr (W_X6_check) σ0 s) : zw (W_X6_check) σ0 (L_X6_check_64 a1 n x2 x3 x4 s) := by
  unfold L_X6_check_64
  exact zwf_III (fun r hr x2 x3 x4 t ht => wB_X6_check_64 σ0 a1 r x2 x3 x4 t hr ht) n x2 x3 x4 s hs
theorem w_X6_check (a1 : Int32) (σ0 : zg_S) : zw (W_X6_check) σ0 (f_X6_check a1 σ0) := by
  unfold f_X6_check
  refine zw_up (by unfold W_X6_check; omega) wr.rf (fun σ47 hσ47 => ?_)
  refine zw_call (w_X6_within a1 1 30 σ47) (fun p k h => False.elim h) hσ47 (fun r53 σ54 hσ54 => ?_)
  refine zw_ite ?_ ?_
  · exact zw_some hσ54
  · refine zw_ite ?_ ?_
    · exact zw_some hσ54
    · refine zw_call (w_X0_takeOver 165 177 σ54) (fun p k h => by unfold W_X0_takeOver at h; unfold W_X6_check; omega) hσ54 (fun r64 σ65 hσ65 => ?_)
      refine zw_let (fun y71 => ?_)
      exact wL_X6_check_64 σ0 a1 zfu (σ0 0 11) y71 0 σ65  hσ65
theorem w_X6_cloth (a1 : Int32) (σ0 : zg_S) : zw (W_X6_cloth) σ0 (f_X6_cloth a1 σ0) := by
  unfold f_X6_cloth
  refine zw_ite ?_ ?_
  · exact zw_some wr.rf
  · refine zw_ite ?_ ?_
    · exact zw_some wr.rf
    · refine zw_ite ?_ ?_
      · exact zw_some wr.rf
      · refine zw_ite ?_ ?_
        · exact zw_some wr.rf
        · refine zw_ite ?_ ?_
          · refine zw_call (w_X0_heat 153 σ0) (fun p k h => False.elim h) wr.rf (fun r15 σ16 hσ16 => ?_)
            exact zw_some hσ16
          · refine zw_ite ?_ ?_
            · refine zw_call (w_X0_firstShaded 153 σ0) (fun p k h => False.elim h) wr.rf (fun r25 σ26 hσ26 => ?_)
              exact zw_some hσ26
            · refine zw_ite ?_ ?_
              · refine zw_call (w_X0_shadedSet 153 σ0) (fun p k h => False.elim h) wr.rf (fun r35 σ36 hσ36 => ?_)
                exact zw_some hσ36
              · exact zw_some wr.rf
theorem w_X6_isSheet (a0 : Int32) (σ0 : zg_S) : zw (W_X6_isSheet) σ0 (f_X6_isSheet a0 σ0) := by
  unfold f_X6_isSheet
  refine zw_call (w_X6_within a0 0 3 σ0) (fun p k h => False.elim h) wr.rf (fun r1 σ2 hσ2 => ?_)
  refine zw_ite ?_ zw_none
  exact zw_some hσ2
theorem w_X6_copy (a1 : Int32) (a2 : Int32) (a3 : Int32) (a4 : Int32) (a5 : Int32) (σ0 : zg_S) : zw (W_X6_copy a3) σ0 (f_X6_copy a1 a2 a3 a4 a5 σ0) := by
  unfold f_X6_copy
  refine zw_call (w_X6_isSheet a1 σ0) (fun p k h => False.elim h) wr.rf (fun r1 σ2 hσ2 => ?_)
  refine zw_ite ?_ ?_
  · exact zw_some hσ2
  · refine zw_call (w_X6_isSheet a3 σ2) (fun p k h => False.elim h) hσ2 (fun r11 σ12 hσ12 => ?_)
    refine zw_ite ?_ ?_
    · exact zw_some hσ12
    · refine zw_in (fun z1 => ?_)
      refine zw_in (fun z2 => ?_)
      refine zw_call (w_X2_isMissing (53 + 2 * (Int32.toNatClampNeg a1)) σ12) (fun p k h => False.elim h) hσ12 (fun r30 σ31 hσ31 => ?_)
      refine zw_ite ?_ ?_
      · refine zw_call (w_X2_isMissing (53 + 2 * (Int32.toNatClampNeg a3)) σ31) (fun p k h => False.elim h) hσ31 (fun r40 σ41 hσ41 => ?_)
        refine zw_ite ?_ ?_
        · refine zw_ite ?_ ?_
          · refine zw_call (w_X2_hasPlaces (53 + 2 * (Int32.toNatClampNeg a1)) a2 a5 σ41) (fun p k h => False.elim h) hσ41 (fun r51 σ52 hσ52 => ?_)
            refine zw_ite ?_ ?_
            · exact zw_some hσ52
            · refine zw_call (w_X2_hasPlaces (53 + 2 * (Int32.toNatClampNeg a3)) a4 a5 σ52) (fun p k h => False.elim h) hσ52 (fun r61 σ62 hσ62 => ?_)
              refine zw_ite ?_ ?_
              · exact zw_some hσ62
              · refine zw_ite ?_ zw_none
                refine zw_row (fun j => by unfold W_X6_copy; omega) hσ62 (fun σ76 hσ76 => ?_)
                exact zw_some hσ76
          · exact zw_some hσ41
        · exact zw_some hσ41
      · exact zw_some hσ31
theorem w_X6_count (a1 : Int32) (σ0 : zg_S) : zw (W_X6_count) σ0 (f_X6_count a1 σ0) := by
  unfold f_X6_count
  refine zw_ite ?_ ?_
  · exact zw_some wr.rf
  · refine zw_ite ?_ ?_
    · exact zw_some wr.rf
    · refine zw_ite ?_ ?_
      · refine zw_call (w_X0_shadedSet 153 σ0) (fun p k h => False.elim h) wr.rf (fun r9 σ10 hσ10 => ?_)
        refine zw_call (w_J6_bitCount_0f7a4 r9 σ10) (fun p k h => False.elim h) hσ10 (fun r16 σ17 hσ17 => ?_)
        exact zw_some hσ17
      · refine zw_ite ?_ ?_
        · exact zw_some wr.rf
        · refine zw_ite ?_ ?_
          · exact zw_some wr.rf
          · refine zw_ite ?_ ?_
            · exact zw_some wr.rf
            · refine zw_ite ?_ ?_
              · exact zw_some wr.rf
              · exact zw_some wr.rf
theorem wB_X6_deal_30 (σ0 : zg_S) (a1 : Int32) (rec30_ : Int32 → Int32 → zg_S → Option (Int32 × zg_S)) (x2 : Int32) (x3 : Int32) (s : zg_S) (hrec30_ : ∀ (z0 : Int32) (z1 : Int32) (s : zg_S), wr (W_X6_deal) σ0 s → zw (W_X6_deal) σ0 (rec30_ z0 z1 s)) (hs : wr (W_X6_deal) σ0 s) : zw (W_X6_deal) σ0 (B_X6_deal_30 a1 rec30_ x2 x3 s) := by
  unfold B_X6_deal_30
  refine zw_ite ?_ ?_
  · exact zw_some hs
  · refine zw_call (w_X0_draw 153 s) (fun p k h => by unfold W_X0_draw at h; unfold W_X6_deal; omega) hs (fun r4 σ5 hσ5 => ?_)
    refine zw_call (w_X0_draw 153 σ5) (fun p k h => by unfold W_X0_draw at h; unfold W_X6_deal; omega) hσ5 (fun r13 σ14 hσ14 => ?_)
    refine zw_call (w_X0_draw 153 σ14) (fun p k h => by unfold W_X0_draw at h; unfold W_X6_deal; omega) hσ14 (fun r22 σ23 hσ23 => ?_)
    refine zw_call (w_X0_open 153 (r4 - r4 / 6 * 6) (r13 - r13 / 12 * 12) (r22 - r22 / 40 * 40) σ23) (fun p k h => by unfold W_X0_open at h; unfold W_X6_deal; omega) hσ23 (fun r31 σ32 hσ32 => ?_)
    exact hrec30_ x2 (x3 + 1) σ32 hσ32
theorem wL_X6_deal_30 (σ0 : zg_S) (a1 : Int32) (n : Nat) (x2 : Int32) (x3 : Int32) (s : zg_S) (hs : wr (W_X6_deal) σ0 s) : zw (W_X6_deal) σ0 (L_X6_deal_30 a1 n x2 x3 s) := by
  unfold L_X6_deal_30
  exact zwf_II (fun r hr x2 x3 t ht => wB_X6_deal_30 σ0 a1 r x2 x3 t hr ht) n x2 x3 s hs
theorem w_X6_deal (a1 : Int32) (σ0 : zg_S) : zw (W_X6_deal) σ0 (f_X6_deal a1 σ0) := by
  unfold f_X6_deal
  refine zw_call (w_X6_within a1 1 9 σ0) (fun p k h => False.elim h) wr.rf (fun r40 σ41 hσ41 => ?_)
  refine zw_ite ?_ ?_
  · exact zw_some hσ41
  · refine zw_let (fun y49 => ?_)
    exact wL_X6_deal_30 σ0 a1 zfu y49 0 σ41  hσ41
theorem w_X6_fee  (σ0 : zg_S) : zw (W_X6_fee) σ0 (f_X6_fee  σ0) := by
  unfold f_X6_fee
  refine zw_call (w_X6_within (σ0 155 1) 0 13 σ0) (fun p k h => False.elim h) wr.rf (fun r3 σ4 hσ4 => ?_)
  refine zw_ite ?_ ?_
  · exact zw_some hσ4
  · refine zw_in (fun z1 => ?_)
    refine zw_call (w_X5_workOut (11 + 3 * (Int32.toNatClampNeg (σ0 155 1))) (σ4 153 10) (σ4 153 12) 0 σ4) (fun p k h => by unfold W_X5_workOut at h; unfold W_X6_fee; omega) hσ4 (fun r15 σ16 hσ16 => ?_)
    exact zw_some hσ16
theorem wB_X6_feedBytes_3 (σ0 : zg_S) (a1 : Int32) (rec3_ : Int32 → zg_S → Option (Int32 × zg_S)) (x2 : Int32) (s : zg_S) (hrec3_ : ∀ (z0 : Int32) (s : zg_S), wr (W_X6_feedBytes) σ0 s → zw (W_X6_feedBytes) σ0 (rec3_ z0 s)) (hs : wr (W_X6_feedBytes) σ0 s) : zw (W_X6_feedBytes) σ0 (B_X6_feedBytes_3 a1 rec3_ x2 s) := by
  unfold B_X6_feedBytes_3
  refine zw_ite ?_ ?_
  · exact zw_some hs
  · refine zw_ite ?_ ?_
    · exact zw_some hs
    · refine zw_let (fun y7 => ?_)
      refine zw_in (fun z1 => ?_)
      refine zw_up (by unfold W_X6_feedBytes; omega) hs (fun σ13 hσ13 => ?_)
      refine zw_up (by unfold W_X6_feedBytes; omega) hσ13 (fun σ19 hσ19 => ?_)
      exact hrec3_ (x2 + (-8)) σ19 hσ19
theorem wL_X6_feedBytes_3 (σ0 : zg_S) (a1 : Int32) (n : Nat) (x2 : Int32) (s : zg_S) (hs : wr (W_X6_feedBytes) σ0 s) : zw (W_X6_feedBytes) σ0 (L_X6_feedBytes_3 a1 n x2 s) := by
  unfold L_X6_feedBytes_3
  exact zwf_I (fun r hr x2 t ht => wB_X6_feedBytes_3 σ0 a1 r x2 t hr ht) n x2 s hs
theorem w_X6_feedBytes (a1 : Int32) (σ0 : zg_S) : zw (W_X6_feedBytes) σ0 (f_X6_feedBytes a1 σ0) := by
  unfold f_X6_feedBytes
  exact wL_X6_feedBytes_3 σ0 a1 zfu 24 σ0  wr.rf
theorem w_X6_feed (a1 : Int32) (a2 : Int32) (a3 : Int32) (σ0 : zg_S) : zw (W_X6_feed) σ0 (f_X6_feed a1 a2 a3 σ0) := by
  unfold f_X6_feed
  refine zw_ite ?_ ?_
  · refine zw_call (w_X6_feedBytes a1 σ0) (fun p k h => by unfold W_X6_feedBytes at h; unfold W_X6_feed; omega) wr.rf (fun r3 σ4 hσ4 => ?_)
    refine zw_call (w_X6_feedBytes a2 σ4) (fun p k h => by unfold W_X6_feedBytes at h; unfold W_X6_feed; omega) hσ4 (fun r10 σ11 hσ11 => ?_)
    refine zw_call (w_X6_feedBytes a3 σ11) (fun p k h => by unfold W_X6_feedBytes at h; unfold W_X6_feed; omega) hσ11 (fun r17 σ18 hσ18 => ?_)
    exact zw_some hσ18
  · exact zw_some wr.rf
theorem w_X6_fine (a1 : Int32) (σ0 : zg_S) : zw (W_X6_fine) σ0 (f_X6_fine a1 σ0) := by
  unfold f_X6_fine
  refine zw_call (w_X6_isStall a1 σ0) (fun p k h => False.elim h) wr.rf (fun r1 σ2 hσ2 => ?_)
  refine zw_ite ?_ ?_
  · exact zw_some hσ2
  · refine zw_in (fun z1 => ?_)
    refine zw_call (w_X6_within (σ2 155 2) 0 13 σ2) (fun p k h => False.elim h) hσ2 (fun r17 σ18 hσ18 => ?_)
    refine zw_ite ?_ ?_
    · exact zw_some hσ18
    · refine zw_in (fun z2 => ?_)
      refine zw_call (w_X0_shades 153 (σ18 (154 + 2 + (Int32.toNatClampNeg a1)) 1) σ18) (fun p k h => False.elim h) hσ18 (fun r29 σ30 hσ30 => ?_)
      refine zw_ite ?_ ?_
      · refine zw_call (w_X5_workOut (11 + 3 * (Int32.toNatClampNeg (σ2 155 2))) (σ18 (154 + 2 + (Int32.toNatClampNeg a1)) 2) 0 0 σ30) (fun p k h => by unfold W_X5_workOut at h; unfold W_X6_fine; omega) hσ30 (fun r38 σ39 hσ39 => ?_)
        exact zw_some hσ39
      · refine zw_call (w_X5_workOut (11 + 3 * (Int32.toNatClampNeg (σ2 155 2))) (σ18 (154 + 2 + (Int32.toNatClampNeg a1)) 2) 1 0 σ30) (fun p k h => by unfold W_X5_workOut at h; unfold W_X6_fine; omega) hσ30 (fun r46 σ47 hσ47 => ?_)
        exact zw_some hσ47
theorem w_X6_goods (a1 : Int32) (a2 : Int32) (σ0 : zg_S) : zw (W_X6_goods) σ0 (f_X6_goods a1 a2 σ0) := by
  unfold f_X6_goods
  refine zw_call (w_X6_isStall a1 σ0) (fun p k h => False.elim h) wr.rf (fun r1 σ2 hσ2 => ?_)
  refine zw_ite ?_ ?_
  · exact zw_some hσ2
  · refine zw_call (w_X6_within a2 0 100 σ2) (fun p k h => False.elim h) hσ2 (fun r11 σ12 hσ12 => ?_)
    refine zw_ite ?_ ?_
    · exact zw_some hσ12
    · refine zw_call (w_X0_takeOver 165 153 σ12) (fun p k h => by unfold W_X0_takeOver at h; unfold W_X6_goods; omega) hσ12 (fun r20 σ21 hσ21 => ?_)
      refine zw_call (w_X6_thinkOn a2 σ21) (fun p k h => by unfold W_X6_thinkOn at h; unfold W_X6_goods; omega) hσ21 (fun r27 σ28 hσ28 => ?_)
      refine zw_in (fun z1 => ?_)
      exact zw_some hσ28
theorem wB_X6_hours_40 (σ0 : zg_S) (a1 : Int32) (rec40_ : Int32 → Int32 → Int32 → zg_S → Option (Int32 × zg_S)) (x2 : Int32) (x3 : Int32) (x4 : Int32) (s : zg_S) (hrec40_ : ∀ (z0 : Int32) (z1 : Int32) (z2 : Int32) (s : zg_S), wr (W_X6_hours) σ0 s → zw (W_X6_hours) σ0 (rec40_ z0 z1 z2 s)) (hs : wr (W_X6_hours) σ0 s) : zw (W_X6_hours) σ0 (B_X6_hours_40 a1 rec40_ x2 x3 x4 s) := by
  unfold B_X6_hours_40
  refine zw_ite ?_ ?_
  · exact zw_some hs
  · refine zw_call (w_X0_hauling 153 s) (fun p k h => by unfold W_X0_hauling at h; unfold W_X6_hours; omega) hs (fun r4 σ5 hσ5 => ?_)
    refine zw_call (w_X0_passHour 153 r4 σ5) (fun p k h => by unfold W_X0_passHour at h; unfold W_X6_hours; omega) hσ5 (fun r11 σ12 hσ12 => ?_)
    exact hrec40_ x2 x3 (x4 + 1) σ12 hσ12
theorem wL_X6_hours_40 (σ0 : zg_S) (a1 : Int32) (n : Nat) (x2 : Int32) (x3 : Int32) (x4 : Int32) (s : zg_S) (hs : wr (W_X6_hours) σ0 s) : zw (W_X6_hours) σ0 (L_X6_hours_40 a1 n x2 x3 x4 s) := by
  unfold L_X6_hours_40
  exact zwf_III (fun r hr x2 x3 x4 t ht => wB_X6_hours_40 σ0 a1 r x2 x3 x4 t hr ht) n x2 x3 x4 s hs
theorem w_X6_hours (a1 : Int32) (σ0 : zg_S) : zw (W_X6_hours) σ0 (f_X6_hours a1 σ0) := by
  unfold f_X6_hours
  refine zw_call (w_X6_within a1 1 100 σ0) (fun p k h => False.elim h) wr.rf (fun r20 σ21 hσ21 => ?_)
  refine zw_ite ?_ ?_
  · exact zw_some hσ21
  · refine zw_let (fun y31 => ?_)
    exact wL_X6_hours_40 σ0 a1 zfu (σ21 153 11) y31 0 σ21  hσ21
theorem w_X6_item (a1 : Int32) (a2 : Int32) (σ0 : zg_S) : zw (W_X6_item) σ0 (f_X6_item a1 a2 σ0) := by
  unfold f_X6_item
  refine zw_call (w_X6_isSlot a1 σ0) (fun p k h => False.elim h) wr.rf (fun r1 σ2 hσ2 => ?_)
  refine zw_ite ?_ ?_
  · exact zw_some hσ2
  · refine zw_in (fun z1 => ?_)
    refine zw_call (w_X3_refuses (61 + 4 * (Int32.toNatClampNeg a1)) 2 σ2) (fun p k h => False.elim h) hσ2 (fun r13 σ14 hσ14 => ?_)
    refine zw_ite ?_ ?_
    · refine zw_call (w_X2_hasPlace ((61 + 4 * (Int32.toNatClampNeg a1)) + 2) a2 σ14) (fun p k h => False.elim h) hσ14 (fun r26 σ27 hσ27 => ?_)
      refine zw_ite ?_ ?_
      · exact zw_some hσ27
      · refine zw_call (w_X2_hasNumber ((61 + 4 * (Int32.toNatClampNeg a1)) + 2) a2 σ27) (fun p k h => False.elim h) hσ27 (fun r35 σ36 hσ36 => ?_)
        refine zw_ite ?_ ?_
        · exact zw_some hσ36
        · refine zw_in (fun z2 => ?_)
          exact zw_some hσ36
    · exact zw_some hσ14
theorem w_X6_keep  (σ0 : zg_S) : zw (W_X6_keep) σ0 (f_X6_keep  σ0) := by
  unfold f_X6_keep
  refine zw_call (w_X0_takeOver 177 153 σ0) (fun p k h => by unfold W_X0_takeOver at h; unfold W_X6_keep; omega) wr.rf (fun r1 σ2 hσ2 => ?_)
  refine zw_up (by unfold W_X6_keep; omega) hσ2 (fun σ8 hσ8 => ?_)
  exact zw_some hσ8
theorem w_X6_lay (a1 : Int32) (a2 : Int32) (a3 : Int32) (σ0 : zg_S) : zw (W_X6_lay a1) σ0 (f_X6_lay a1 a2 a3 σ0) := by
  unfold f_X6_lay
  refine zw_call (w_X6_isSlot a1 σ0) (fun p k h => False.elim h) wr.rf (fun r7 σ8 hσ8 => ?_)
  refine zw_ite ?_ ?_
  · exact zw_some hσ8
  · refine zw_call (w_X6_within a2 0 3 σ8) (fun p k h => False.elim h) hσ8 (fun r17 σ18 hσ18 => ?_)
    refine zw_ite ?_ ?_
    · exact zw_some hσ18
    · refine zw_in (fun z1 => ?_)
      refine zw_let (fun y31 => ?_)
      refine zw_ite ?_ ?_
      · refine zw_call (w_X6_isStall a3 σ18) (fun p k h => False.elim h) hσ18 (fun r81 σ82 hσ82 => ?_)
        refine zw_ite ?_ ?_
        · exact zw_some hσ82
        · refine zw_in (fun z2 => ?_)
          refine zw_call (w_X4_takeOver ((61 + 4 * (Int32.toNatClampNeg a1)) + 1) (154 + 2 + (Int32.toNatClampNeg a3)) σ82) (fun p k h => by unfold W_X4_takeOver at h; unfold W_X6_lay; omega) hσ82 (fun r93 σ94 hσ94 => ?_)
          unfold B_X6_lay_128
          refine zw_up (by unfold W_X6_lay; omega) hσ94 (fun σ1 hσ1 => ?_)
          exact zw_some hσ1
      · refine zw_ite ?_ ?_
        · refine zw_call (w_X6_isSheet a3 σ18) (fun p k h => False.elim h) hσ18 (fun r50 σ51 hσ51 => ?_)
          refine zw_ite ?_ ?_
          · exact zw_some hσ51
          · refine zw_in (fun z3 => ?_)
            refine zw_call (w_X2_isMissing (53 + 2 * (Int32.toNatClampNeg a3)) σ51) (fun p k h => False.elim h) hσ51 (fun r62 σ63 hσ63 => ?_)
            refine zw_ite ?_ ?_
            · refine zw_call (w_X2_takeOver ((61 + 4 * (Int32.toNatClampNeg a1)) + 2) (53 + 2 * (Int32.toNatClampNeg a3)) σ63) (fun p k h => by unfold W_X2_takeOver at h; unfold W_X6_lay; omega) hσ63 (fun r71 σ72 hσ72 => ?_)
              unfold B_X6_lay_128
              refine zw_up (by unfold W_X6_lay; omega) hσ72 (fun σ1 hσ1 => ?_)
              exact zw_some hσ1
            · exact zw_some hσ63
        · refine zw_ite ?_ ?_
          · refine zw_up (by unfold W_X6_lay; omega) hσ18 (fun σ43 hσ43 => ?_)
            unfold B_X6_lay_128
            refine zw_up (by unfold W_X6_lay; omega) hσ43 (fun σ1 hσ1 => ?_)
            exact zw_some hσ1
          · unfold B_X6_lay_128
            refine zw_up (by unfold W_X6_lay; omega) hσ18 (fun σ1 hσ1 => ?_)
            exact zw_some hσ1
theorem w_X6_mark (a1 : Int32) (a2 : Int32) (a3 : Int32) (σ0 : zg_S) : zw (W_X6_mark a1) σ0 (f_X6_mark a1 a2 a3 σ0) := by
  unfold f_X6_mark
  refine zw_call (w_X6_isSheet a1 σ0) (fun p k h => False.elim h) wr.rf (fun r10 σ11 hσ11 => ?_)
  refine zw_ite ?_ ?_
  · exact zw_some hσ11
  · refine zw_in (fun z1 => ?_)
    refine zw_call (w_X2_isMissing (53 + 2 * (Int32.toNatClampNeg a1)) σ11) (fun p k h => False.elim h) hσ11 (fun r24 σ25 hσ25 => ?_)
    refine zw_ite ?_ ?_
    · refine zw_call (w_X2_hasPlace (53 + 2 * (Int32.toNatClampNeg a1)) a2 σ25) (fun p k h => False.elim h) hσ25 (fun r33 σ34 hσ34 => ?_)
      refine zw_ite ?_ ?_
      · exact zw_some hσ34
      · refine zw_ite ?_ ?_
        · refine zw_ite ?_ ?_
          · exact zw_some hσ34
          · refine zw_in (fun z2 => ?_)
            refine zw_up (by unfold W_X6_mark; omega) hσ34 (fun σ63 hσ63 => ?_)
            exact zw_some hσ63
        · refine zw_ite ?_ ?_
          · unfold B_X6_mark_92
            refine zw_in (fun z3 => ?_)
            refine zw_up (by unfold W_X6_mark; omega) hσ34 (fun σ4 hσ4 => ?_)
            exact zw_some hσ4
          · refine zw_call (w_X6_within a3 (-99999) 99999 σ34) (fun p k h => False.elim h) hσ34 (fun r47 σ48 hσ48 => ?_)
            refine zw_ite ?_ ?_
            · exact zw_some hσ48
            · unfold B_X6_mark_92
              refine zw_in (fun z4 => ?_)
              refine zw_up (by unfold W_X6_mark; omega) hσ48 (fun σ4 hσ4 => ?_)
              exact zw_some hσ4
    · exact zw_some hσ25
theorem wB_X6_pour_32 (σ0 : zg_S) (a1 : Int32) (rec32_ : Nat → Int32 → Int32 → zg_S → Option (Int32 × zg_S)) (q2v : Nat) (x3 : Int32) (x4 : Int32) (s : zg_S) (hrec32_ : ∀ (z0 : Nat) (z1 : Int32) (z2 : Int32) (s : zg_S), wr (W_X6_pour) σ0 s → zw (W_X6_pour) σ0 (rec32_ z0 z1 z2 s)) (hs : wr (W_X6_pour) σ0 s) : zw (W_X6_pour) σ0 (B_X6_pour_32 a1 rec32_ q2v x3 x4 s) := by
  unfold B_X6_pour_32
  refine zw_ite ?_ ?_
  · exact zw_some hs
  · refine zw_call (w_X2_hasNumber q2v x4 s) (fun p k h => False.elim h) hs (fun r17 σ18 hσ18 => ?_)
    refine zw_ite ?_ ?_
    · unfold B_X6_pour_110
      exact hrec32_ q2v x3 (x4 + 1) σ18 hσ18
    · refine zw_in (fun z1 => ?_)
      refine zw_call (w_X6_held (σ18 (q2v + 1) (Int32.toNatClampNeg x4)) 0 999 σ18) (fun p k h => False.elim h) hσ18 (fun r30 σ31 hσ31 => ?_)
      refine zw_in (fun z2 => ?_)
      refine zw_ite ?_ ?_
      · unfold B_X6_pour_93
        refine zw_in (fun z3 => ?_)
        refine zw_up (by unfold W_X6_pour; omega) hσ31 (fun σ8 hσ8 => ?_)
        unfold B_X6_pour_110
        exact hrec32_ q2v (x3 + 0) (x4 + 1) σ8 hσ8
      · unfold B_X6_pour_93
        refine zw_in (fun z4 => ?_)
        refine zw_up (by unfold W_X6_pour; omega) hσ31 (fun σ8 hσ8 => ?_)
        unfold B_X6_pour_110
        exact hrec32_ q2v (x3 + 1) (x4 + 1) σ8 hσ8
theorem wL_X6_pour_32 (σ0 : zg_S) (a1 : Int32) (n : Nat) (q2v : Nat) (x3 : Int32) (x4 : Int32) (s : zg_S) (hs : wr (W_X6_pour) σ0 s) : zw (W_X6_pour) σ0 (L_X6_pour_32 a1 n q2v x3 x4 s) := by
  unfold L_X6_pour_32
  exact zwf_NII (fun r hr q2v x3 x4 t ht => wB_X6_pour_32 σ0 a1 r q2v x3 x4 t hr ht) n q2v x3 x4 s hs
theorem w_X6_pour (a1 : Int32) (σ0 : zg_S) : zw (W_X6_pour) σ0 (f_X6_pour a1 σ0) := by
  unfold f_X6_pour
  refine zw_call (w_X6_isSheet a1 σ0) (fun p k h => False.elim h) wr.rf (fun r45 σ46 hσ46 => ?_)
  refine zw_ite ?_ ?_
  · exact zw_some hσ46
  · refine zw_in (fun z1 => ?_)
    refine zw_call (w_X2_isMissing (53 + 2 * (Int32.toNatClampNeg a1)) σ46) (fun p k h => False.elim h) hσ46 (fun r59 σ60 hσ60 => ?_)
    refine zw_ite ?_ ?_
    · exact wL_X6_pour_32 σ0 a1 zfu (53 + 2 * (Int32.toNatClampNeg a1)) 0 0 σ60  hσ60
    · exact zw_some hσ60
theorem wB_X6_reads_29 (σ0 : zg_S) (a1 : Int32) (rec29_ : Nat → Int32 → zg_S → Option (Int32 × zg_S)) (q2v : Nat) (x3 : Int32) (s : zg_S) (hrec29_ : ∀ (z0 : Nat) (z1 : Int32) (s : zg_S), wr (W_X6_reads) σ0 s → zw (W_X6_reads) σ0 (rec29_ z0 z1 s)) (hs : wr (W_X6_reads) σ0 s) : zw (W_X6_reads) σ0 (B_X6_reads_29 a1 rec29_ q2v x3 s) := by
  unfold B_X6_reads_29
  refine zw_ite ?_ ?_
  · exact zw_some hs
  · refine zw_call (w_X2_hasNumber q2v x3 s) (fun p k h => False.elim h) hs (fun r6 σ7 hσ7 => ?_)
    refine zw_ite ?_ ?_
    · unfold B_X6_reads_80
      exact hrec29_ q2v (x3 + 1) σ7 hσ7
    · refine zw_call (w_X6_isStall x3 σ7) (fun p k h => False.elim h) hσ7 (fun r16 σ17 hσ17 => ?_)
      refine zw_ite ?_ ?_
      · exact zw_some hσ17
      · refine zw_in (fun z1 => ?_)
        refine zw_in (fun z2 => ?_)
        refine zw_call (w_X0_lossOf 153 (154 + 2 + (Int32.toNatClampNeg x3)) σ17) (fun p k h => by unfold W_X0_lossOf at h; unfold W_X6_reads; omega) hσ17 (fun r32 σ33 hσ33 => ?_)
        refine zw_ite ?_ ?_
        · unfold B_X6_reads_80
          exact hrec29_ q2v (x3 + 1) σ33 hσ33
        · exact zw_some hσ33
theorem wL_X6_reads_29 (σ0 : zg_S) (a1 : Int32) (n : Nat) (q2v : Nat) (x3 : Int32) (s : zg_S) (hs : wr (W_X6_reads) σ0 s) : zw (W_X6_reads) σ0 (L_X6_reads_29 a1 n q2v x3 s) := by
  unfold L_X6_reads_29
  exact zwf_NI (fun r hr q2v x3 t ht => wB_X6_reads_29 σ0 a1 r q2v x3 t hr ht) n q2v x3 s hs
theorem w_X6_reads (a1 : Int32) (σ0 : zg_S) : zw (W_X6_reads) σ0 (f_X6_reads a1 σ0) := by
  unfold f_X6_reads
  refine zw_call (w_X6_isSheet a1 σ0) (fun p k h => False.elim h) wr.rf (fun r42 σ43 hσ43 => ?_)
  refine zw_ite ?_ ?_
  · exact zw_some hσ43
  · refine zw_in (fun z1 => ?_)
    refine zw_call (w_X2_isMissing (53 + 2 * (Int32.toNatClampNeg a1)) σ43) (fun p k h => False.elim h) hσ43 (fun r56 σ57 hσ57 => ?_)
    refine zw_ite ?_ ?_
    · exact wL_X6_reads_29 σ0 a1 zfu (53 + 2 * (Int32.toNatClampNeg a1)) 0 σ57  hσ57
    · exact zw_some hσ57
theorem w_X6_rest (a1 : Int32) (a2 : Int32) (σ0 : zg_S) : zw (W_X6_rest) σ0 (f_X6_rest a1 a2 σ0) := by
  unfold f_X6_rest
  refine zw_call (w_X6_isSlot a1 σ0) (fun p k h => False.elim h) wr.rf (fun r1 σ2 hσ2 => ?_)
  refine zw_ite ?_ ?_
  · exact zw_some hσ2
  · refine zw_in (fun z1 => ?_)
    refine zw_call (w_X3_refuses (61 + 4 * (Int32.toNatClampNeg a1)) 3 σ2) (fun p k h => False.elim h) hσ2 (fun r13 σ14 hσ14 => ?_)
    refine zw_ite ?_ ?_
    · refine zw_ite ?_ ?_
      · exact zw_some hσ14
      · refine zw_ite zw_none ?_
        exact zw_some hσ14
    · exact zw_some hσ14
theorem w_X6_ruleFirst (a1 : Int32) (σ0 : zg_S) : zw (W_X6_ruleFirst) σ0 (f_X6_ruleFirst a1 σ0) := by
  unfold f_X6_ruleFirst
  refine zw_call (w_X0_lastFirst 153 σ0) (fun p k h => False.elim h) wr.rf (fun r1 σ2 hσ2 => ?_)
  refine zw_call (w_X6_within a1 0 r1 σ2) (fun p k h => False.elim h) hσ2 (fun r8 σ9 hσ9 => ?_)
  refine zw_ite ?_ ?_
  · exact zw_some hσ9
  · refine zw_up (by unfold W_X6_ruleFirst; omega) hσ9 (fun σ19 hσ19 => ?_)
    exact zw_some hσ19
theorem w_X6_ruleWidth (a1 : Int32) (σ0 : zg_S) : zw (W_X6_ruleWidth) σ0 (f_X6_ruleWidth a1 σ0) := by
  unfold f_X6_ruleWidth
  refine zw_call (w_X6_within a1 1 6 σ0) (fun p k h => False.elim h) wr.rf (fun r1 σ2 hσ2 => ?_)
  refine zw_ite ?_ ?_
  · exact zw_some hσ2
  · refine zw_call (w_X0_widen 153 a1 σ2) (fun p k h => by unfold W_X0_widen at h; unfold W_X6_ruleWidth; omega) hσ2 (fun r12 σ13 hσ13 => ?_)
    exact zw_some hσ13
theorem w_X6_ruleGust (a1 : Int32) (σ0 : zg_S) : zw (W_X6_ruleGust) σ0 (f_X6_ruleGust a1 σ0) := by
  unfold f_X6_ruleGust
  refine zw_call (w_X6_within a1 0 100 σ0) (fun p k h => False.elim h) wr.rf (fun r1 σ2 hσ2 => ?_)
  refine zw_ite ?_ ?_
  · exact zw_some hσ2
  · refine zw_up (by unfold W_X6_ruleGust; omega) hσ2 (fun σ12 hσ12 => ?_)
    exact zw_some hσ12
theorem w_X6_ruleMode (a1 : Int32) (σ0 : zg_S) : zw (W_X6_ruleMode) σ0 (f_X6_ruleMode a1 σ0) := by
  unfold f_X6_ruleMode
  refine zw_call (w_X6_within a1 0 2 σ0) (fun p k h => False.elim h) wr.rf (fun r1 σ2 hσ2 => ?_)
  refine zw_ite ?_ ?_
  · exact zw_some hσ2
  · refine zw_up (by unfold W_X6_ruleMode; omega) hσ2 (fun σ12 hσ12 => ?_)
    exact zw_some hσ12
theorem w_X6_rule (a1 : Int32) (a2 : Int32) (σ0 : zg_S) : zw (W_X6_rule) σ0 (f_X6_rule a1 a2 σ0) := by
  unfold f_X6_rule
  refine zw_ite ?_ ?_
  · refine zw_call (w_X6_ruleFirst a2 σ0) (fun p k h => by unfold W_X6_ruleFirst at h; unfold W_X6_rule; omega) wr.rf (fun r3 σ4 hσ4 => ?_)
    exact zw_some hσ4
  · refine zw_ite ?_ ?_
    · refine zw_call (w_X6_ruleWidth a2 σ0) (fun p k h => by unfold W_X6_ruleWidth at h; unfold W_X6_rule; omega) wr.rf (fun r13 σ14 hσ14 => ?_)
      exact zw_some hσ14
    · refine zw_ite ?_ ?_
      · refine zw_call (w_X6_ruleGust a2 σ0) (fun p k h => by unfold W_X6_ruleGust at h; unfold W_X6_rule; omega) wr.rf (fun r23 σ24 hσ24 => ?_)
        exact zw_some hσ24
      · refine zw_ite ?_ ?_
        · refine zw_call (w_X6_ruleMode a2 σ0) (fun p k h => by unfold W_X6_ruleMode at h; unfold W_X6_rule; omega) wr.rf (fun r33 σ34 hσ34 => ?_)
          exact zw_some hσ34
        · exact zw_some wr.rf
theorem w_X6_seed (a1 : Int32) (σ0 : zg_S) : zw (W_X6_seed) σ0 (f_X6_seed a1 σ0) := by
  unfold f_X6_seed
  refine zw_up (by unfold W_X6_seed; omega) wr.rf (fun σ3 hσ3 => ?_)
  exact zw_some hσ3
theorem w_X6_setPlace (q0 : Nat) (a1 : Int32) (σ0 : zg_S) : zw (W_X6_setPlace q0) σ0 (f_X6_setPlace q0 a1 σ0) := by
  unfold f_X6_setPlace
  refine zw_call (w_X6_within a1 0 11 σ0) (fun p k h => False.elim h) wr.rf (fun r1 σ2 hσ2 => ?_)
  refine zw_ite ?_ ?_
  · exact zw_some hσ2
  · refine zw_up (by unfold W_X6_setPlace; omega) hσ2 (fun σ12 hσ12 => ?_)
    exact zw_some hσ12
theorem w_X6_setGoods (q0 : Nat) (a1 : Int32) (σ0 : zg_S) : zw (W_X6_setGoods q0) σ0 (f_X6_setGoods q0 a1 σ0) := by
  unfold f_X6_setGoods
  refine zw_call (w_X6_within a1 0 999 σ0) (fun p k h => False.elim h) wr.rf (fun r1 σ2 hσ2 => ?_)
  refine zw_ite ?_ ?_
  · exact zw_some hσ2
  · refine zw_up (by unfold W_X6_setGoods; omega) hσ2 (fun σ12 hσ12 => ?_)
    exact zw_some hσ12
theorem w_X6_setPay (q0 : Nat) (a1 : Int32) (σ0 : zg_S) : zw (W_X6_setPay q0) σ0 (f_X6_setPay q0 a1 σ0) := by
  unfold f_X6_setPay
  refine zw_call (w_X6_within a1 0 99 σ0) (fun p k h => False.elim h) wr.rf (fun r1 σ2 hσ2 => ?_)
  refine zw_ite ?_ ?_
  · exact zw_some hσ2
  · refine zw_up (by unfold W_X6_setPay; omega) hσ2 (fun σ12 hσ12 => ?_)
    exact zw_some hσ12
theorem w_X6_set (a1 : Int32) (a2 : Int32) (a3 : Int32) (σ0 : zg_S) : zw (W_X6_set a1) σ0 (f_X6_set a1 a2 a3 σ0) := by
  unfold f_X6_set
  refine zw_call (w_X6_isStall a1 σ0) (fun p k h => False.elim h) wr.rf (fun r1 σ2 hσ2 => ?_)
  refine zw_ite ?_ ?_
  · exact zw_some hσ2
  · refine zw_ite ?_ ?_
    · refine zw_in (fun z1 => ?_)
      refine zw_call (w_X6_setPlace (154 + 2 + (Int32.toNatClampNeg a1)) a3 σ2) (fun p k h => by unfold W_X6_setPlace at h; unfold W_X6_set; omega) hσ2 (fun r15 σ16 hσ16 => ?_)
      exact zw_some hσ16
    · refine zw_ite ?_ ?_
      · refine zw_in (fun z2 => ?_)
        refine zw_call (w_X6_setGoods (154 + 2 + (Int32.toNatClampNeg a1)) a3 σ2) (fun p k h => by unfold W_X6_setGoods at h; unfold W_X6_set; omega) hσ2 (fun r28 σ29 hσ29 => ?_)
        exact zw_some hσ29
      · refine zw_ite ?_ ?_
        · refine zw_in (fun z3 => ?_)
          refine zw_call (w_X6_setPay (154 + 2 + (Int32.toNatClampNeg a1)) a3 σ2) (fun p k h => by unfold W_X6_setPay at h; unfold W_X6_set; omega) hσ2 (fun r41 σ42 hσ42 => ?_)
          exact zw_some hσ42
        · exact zw_some hσ2
theorem wB_X6_shaded_89 (σ0 : zg_S) (a1 : Int32) (a2 : Int32) (rec51_ : Int32 → Int32 → Int32 → zg_S → Option (Int32 × zg_S)) (x3 : Int32) (x4 : Int32) (x5 : Int32) (x6 : Int32) (s : zg_S) (hrec51_ : ∀ (z0 : Int32) (z1 : Int32) (z2 : Int32) (s : zg_S), wr (W_X6_shaded) σ0 s → zw (W_X6_shaded) σ0 (rec51_ z0 z1 z2 s)) (hs : wr (W_X6_shaded) σ0 s) : zw (W_X6_shaded) σ0 (B_X6_shaded_89 a1 a2 rec51_ x3 x4 x5 x6 s) := by
  unfold B_X6_shaded_89
  refine zw_call (w_X0_passHour 165 x6 s) (fun p k h => by unfold W_X0_passHour at h; unfold W_X6_shaded; omega) hs (fun r1 σ2 hσ2 => ?_)
  exact hrec51_ x3 x4 (x5 + 1) σ2 hσ2
theorem wB_X6_shaded_51 (σ0 : zg_S) (a1 : Int32) (a2 : Int32) (rec51_ : Int32 → Int32 → Int32 → zg_S → Option (Int32 × zg_S)) (x3 : Int32) (x4 : Int32) (x5 : Int32) (s : zg_S) (hrec51_ : ∀ (z0 : Int32) (z1 : Int32) (z2 : Int32) (s : zg_S), wr (W_X6_shaded) σ0 s → zw (W_X6_shaded) σ0 (rec51_ z0 z1 z2 s)) (hs : wr (W_X6_shaded) σ0 s) : zw (W_X6_shaded) σ0 (B_X6_shaded_51 a1 a2 rec51_ x3 x4 x5 s) := by
  unfold B_X6_shaded_51
  refine zw_ite ?_ ?_
  · exact zw_some hs
  · refine zw_call (w_X0_hauling 165 s) (fun p k h => by unfold W_X0_hauling at h; unfold W_X6_shaded; omega) hs (fun r13 σ14 hσ14 => ?_)
    refine zw_call (w_X0_hauledTo 165 r13 σ14) (fun p k h => False.elim h) hσ14 (fun r22 σ23 hσ23 => ?_)
    refine zw_call (w_X0_wouldShade 165 r22 x3 σ23) (fun p k h => False.elim h) hσ23 (fun r29 σ30 hσ30 => ?_)
    refine zw_ite ?_ ?_
    · exact wB_X6_shaded_89 σ0 a1 a2 rec51_ x3 x4 x5 r13 σ30 hrec51_ hσ30
    · exact wB_X6_shaded_89 σ0 a1 a2 rec51_ x3 (x4 + 1) x5 r13 σ30 hrec51_ hσ30
theorem wL_X6_shaded_51 (σ0 : zg_S) (a1 : Int32) (a2 : Int32) (n : Nat) (x3 : Int32) (x4 : Int32) (x5 : Int32) (s : zg_S) (hs : wr (W_X6_shaded) σ0 s) : zw (W_X6_shaded) σ0 (L_X6_shaded_51 a1 a2 n x3 x4 x5 s) := by
  unfold L_X6_shaded_51
  exact zwf_III (fun r hr x3 x4 x5 t ht => wB_X6_shaded_51 σ0 a1 a2 r x3 x4 x5 t hr ht) n x3 x4 x5 s hs
theorem w_X6_shaded (a1 : Int32) (a2 : Int32) (σ0 : zg_S) : zw (W_X6_shaded) σ0 (f_X6_shaded a1 a2 σ0) := by
  unfold f_X6_shaded
  refine zw_call (w_X6_isStall a1 σ0) (fun p k h => False.elim h) wr.rf (fun r41 σ42 hσ42 => ?_)
  refine zw_ite ?_ ?_
  · exact zw_some hσ42
  · refine zw_call (w_X6_within a2 1 60 σ42) (fun p k h => False.elim h) hσ42 (fun r51 σ52 hσ52 => ?_)
    refine zw_ite ?_ ?_
    · exact zw_some hσ52
    · refine zw_call (w_X0_takeOver 165 153 σ52) (fun p k h => by unfold W_X0_takeOver at h; unfold W_X6_shaded; omega) hσ52 (fun r60 σ61 hσ61 => ?_)
      refine zw_in (fun z1 => ?_)
      refine zw_let (fun y70 => ?_)
      exact wL_X6_shaded_51 σ0 a1 a2 zfu y70 0 0 σ61  hσ61
theorem w_X6_sheet (a1 : Int32) (a2 : Int32) (a3 : Int32) (σ0 : zg_S) : zw (W_X6_sheet a1) σ0 (f_X6_sheet a1 a2 a3 σ0) := by
  unfold f_X6_sheet
  refine zw_call (w_X6_isSheet a1 σ0) (fun p k h => False.elim h) wr.rf (fun r1 σ2 hσ2 => ?_)
  refine zw_ite ?_ ?_
  · exact zw_some hσ2
  · refine zw_call (w_X6_within a2 (-1) 1 σ2) (fun p k h => False.elim h) hσ2 (fun r11 σ12 hσ12 => ?_)
    refine zw_ite ?_ ?_
    · exact zw_some hσ12
    · refine zw_ite ?_ ?_
      · refine zw_in (fun z1 => ?_)
        refine zw_call (w_X2_become (53 + 2 * (Int32.toNatClampNeg a1)) (-1) 0 σ12) (fun p k h => by unfold W_X2_become at h; unfold W_X6_sheet; omega) hσ12 (fun r42 σ43 hσ43 => ?_)
        exact zw_some hσ43
      · refine zw_ite ?_ ?_
        · refine zw_ite ?_ ?_
          · refine zw_in (fun z2 => ?_)
            refine zw_call (w_X2_become (53 + 2 * (Int32.toNatClampNeg a1)) a2 a3 σ12) (fun p k h => by unfold W_X2_become at h; unfold W_X6_sheet; omega) hσ12 (fun r29 σ30 hσ30 => ?_)
            exact zw_some hσ30
          · exact zw_some hσ12
        · exact zw_some hσ12
theorem w_X6_stall (a1 : Int32) (a2 : Int32) (a3 : Int32) (σ0 : zg_S) : zw (W_X6_stall) σ0 (f_X6_stall a1 a2 a3 σ0) := by
  unfold f_X6_stall
  refine zw_call (w_X6_within a1 0 5 σ0) (fun p k h => False.elim h) wr.rf (fun r1 σ2 hσ2 => ?_)
  refine zw_ite ?_ ?_
  · exact zw_some hσ2
  · refine zw_call (w_X6_within a2 0 11 σ2) (fun p k h => False.elim h) hσ2 (fun r11 σ12 hσ12 => ?_)
    refine zw_ite ?_ ?_
    · exact zw_some hσ12
    · refine zw_call (w_X6_within a3 0 99 σ12) (fun p k h => False.elim h) hσ12 (fun r21 σ22 hσ22 => ?_)
      refine zw_ite ?_ ?_
      · exact zw_some hσ22
      · refine zw_ite ?_ ?_
        · refine zw_call (w_X0_open 153 a1 a2 a3 σ22) (fun p k h => by unfold W_X0_open at h; unfold W_X6_stall; omega) hσ22 (fun r32 σ33 hσ33 => ?_)
          exact zw_some hσ33
        · exact zw_some hσ22
theorem w_X6_tell (a1 : Int32) (σ0 : zg_S) : zw (W_X6_tell) σ0 (f_X6_tell a1 σ0) := by
  unfold f_X6_tell
  refine zw_ite ?_ ?_
  · refine zw_in (fun z1 => ?_)
    refine zw_up (by unfold W_X6_tell; omega) wr.rf (fun σ6 hσ6 => ?_)
    refine zw_up (by unfold W_X6_tell; omega) hσ6 (fun σ12 hσ12 => ?_)
    exact zw_some hσ12
  · exact zw_some wr.rf
theorem w_X6_text  (σ0 : zg_S) : zw (W_X6_text) σ0 (f_X6_text  σ0) := by
  unfold f_X6_text
  refine zw_call (w_X1_readText (σ0 0 10) σ0) (fun p k h => by unfold W_X1_readText at h; unfold W_X6_text; omega) wr.rf (fun r1 σ2 hσ2 => ?_)
  refine zw_up (by unfold W_X6_text; omega) hσ2 (fun σ10 hσ10 => ?_)
  refine zw_ite ?_ ?_
  · refine zw_ite ?_ ?_
    · refine zw_call (w_X0_enact 153 8 σ10) (fun p k h => by unfold W_X0_enact at h; unfold W_X6_text; omega) hσ10 (fun r20 σ21 hσ21 => ?_)
      exact zw_some hσ21
    · exact zw_some hσ10
  · exact zw_some hσ10
theorem w_X6_textTold (a1 : Int32) (a2 : Int32) (σ0 : zg_S) : zw (W_X6_textTold) σ0 (f_X6_textTold a1 a2 σ0) := by
  unfold f_X6_textTold
  refine zw_call (w_X6_within a1 0 ((σ0 153 4) - 1) σ0) (fun p k h => False.elim h) wr.rf (fun r1 σ2 hσ2 => ?_)
  refine zw_ite ?_ ?_
  · exact zw_some hσ2
  · refine zw_ite ?_ ?_
    · refine zw_in (fun z1 => ?_)
      exact zw_some hσ2
    · refine zw_ite ?_ ?_
      · refine zw_in (fun z2 => ?_)
        exact zw_some hσ2
      · exact zw_some hσ2
theorem w_X6_told (a1 : Int32) (a2 : Int32) (σ0 : zg_S) : zw (W_X6_told) σ0 (f_X6_told a1 a2 σ0) := by
  unfold f_X6_told
  refine zw_call (w_X6_isStall a1 σ0) (fun p k h => False.elim h) wr.rf (fun r1 σ2 hσ2 => ?_)
  refine zw_ite ?_ ?_
  · exact zw_some hσ2
  · refine zw_in (fun z1 => ?_)
    refine zw_ite ?_ ?_
    · exact zw_some hσ2
    · refine zw_ite ?_ ?_
      · exact zw_some hσ2
      · refine zw_ite ?_ ?_
        · exact zw_some hσ2
        · refine zw_ite ?_ ?_
          · exact zw_some hσ2
          · refine zw_ite ?_ ?_
            · refine zw_call (w_X0_lossOf 153 (154 + 2 + (Int32.toNatClampNeg a1)) σ2) (fun p k h => by unfold W_X0_lossOf at h; unfold W_X6_told; omega) hσ2 (fun r29 σ30 hσ30 => ?_)
              exact zw_some hσ30
            · refine zw_ite ?_ ?_
              · refine zw_call (w_X0_shades 153 (σ2 (154 + 2 + (Int32.toNatClampNeg a1)) 1) σ2) (fun p k h => False.elim h) hσ2 (fun r39 σ40 hσ40 => ?_)
                refine zw_ite ?_ ?_
                · exact zw_some hσ40
                · exact zw_some hσ40
              · refine zw_ite ?_ ?_
                · refine zw_call (w_X4_worth (154 + 2 + (Int32.toNatClampNeg a1)) σ2) (fun p k h => False.elim h) hσ2 (fun r52 σ53 hσ53 => ?_)
                  exact zw_some hσ53
                · exact zw_some hσ2
theorem w_X6_trim (a1 : Int32) (σ0 : zg_S) : zw (W_X6_trim) σ0 (f_X6_trim a1 σ0) := by
  unfold f_X6_trim
  refine zw_call (w_X6_within a1 0 (σ0 0 10) σ0) (fun p k h => False.elim h) wr.rf (fun r1 σ2 hσ2 => ?_)
  refine zw_ite ?_ ?_
  · exact zw_some hσ2
  · refine zw_up (by unfold W_X6_trim; omega) hσ2 (fun σ10 hσ10 => ?_)
    exact zw_some hσ10
theorem w_X6_turns (a1 : Int32) (a2 : Int32) (σ0 : zg_S) : zw (W_X6_turns a1) σ0 (f_X6_turns a1 a2 σ0) := by
  unfold f_X6_turns
  refine zw_call (w_X6_isStall a1 σ0) (fun p k h => False.elim h) wr.rf (fun r1 σ2 hσ2 => ?_)
  refine zw_ite ?_ ?_
  · exact zw_some hσ2
  · refine zw_call (w_X6_within a2 0 5 σ2) (fun p k h => False.elim h) hσ2 (fun r11 σ12 hσ12 => ?_)
    refine zw_ite ?_ ?_
    · exact zw_some hσ12
    · refine zw_in (fun z1 => ?_)
      refine zw_let (fun y25 => ?_)
      refine zw_up (by unfold W_X6_turns; omega) hσ12 (fun σ30 hσ30 => ?_)
      exact zw_some hσ30
theorem wB_X6_whose_115 (σ0 : zg_S) (a1 : Int32) (a2 : Int32) (a3 : Int32) (rec54_ : Int32 → Int32 → Int32 → zg_S → Option (Int32 × zg_S)) (x4 : Int32) (x5 : Int32) (x6 : Int32) (s : zg_S) (hrec54_ : ∀ (z0 : Int32) (z1 : Int32) (z2 : Int32) (s : zg_S), wr (W_X6_whose) σ0 s → zw (W_X6_whose) σ0 (rec54_ z0 z1 z2 s)) (hs : wr (W_X6_whose) σ0 s) : zw (W_X6_whose) σ0 (B_X6_whose_115 a1 a2 a3 rec54_ x4 x5 x6 s) := by
  unfold B_X6_whose_115
  exact hrec54_ x4 x5 (x6 + 1) s hs
theorem wB_X6_whose_54 (σ0 : zg_S) (a1 : Int32) (a2 : Int32) (a3 : Int32) (rec54_ : Int32 → Int32 → Int32 → zg_S → Option (Int32 × zg_S)) (x4 : Int32) (x5 : Int32) (x6 : Int32) (s : zg_S) (hrec54_ : ∀ (z0 : Int32) (z1 : Int32) (z2 : Int32) (s : zg_S), wr (W_X6_whose) σ0 s → zw (W_X6_whose) σ0 (rec54_ z0 z1 z2 s)) (hs : wr (W_X6_whose) σ0 s) : zw (W_X6_whose) σ0 (B_X6_whose_54 a1 a2 a3 rec54_ x4 x5 x6 s) := by
  unfold B_X6_whose_54
  refine zw_ite ?_ ?_
  · refine zw_ite ?_ ?_
    · exact zw_some hs
    · exact zw_some hs
  · refine zw_call (w_X0_takeOver 165 153 s) (fun p k h => by unfold W_X0_takeOver at h; unfold W_X6_whose; omega) hs (fun r9 σ10 hσ10 => ?_)
    refine zw_up (by unfold W_X6_whose; omega) hσ10 (fun σ16 hσ16 => ?_)
    refine zw_call (w_X6_thinkOn a2 σ16) (fun p k h => by unfold W_X6_thinkOn at h; unfold W_X6_whose; omega) hσ16 (fun r22 σ23 hσ23 => ?_)
    refine zw_in (fun z1 => ?_)
    refine zw_call (w_X0_differencesFrom 165 (53 + 2 * (Int32.toNatClampNeg a1)) σ23) (fun p k h => False.elim h) hσ23 (fun r32 σ33 hσ33 => ?_)
    refine zw_ite ?_ ?_
    · exact wB_X6_whose_115 σ0 a1 a2 a3 rec54_ x4 x5 x6 σ33 hrec54_ hσ33
    · exact wB_X6_whose_115 σ0 a1 a2 a3 rec54_ x6 r32 x6 σ33 hrec54_ hσ33
theorem wL_X6_whose_54 (σ0 : zg_S) (a1 : Int32) (a2 : Int32) (a3 : Int32) (n : Nat) (x4 : Int32) (x5 : Int32) (x6 : Int32) (s : zg_S) (hs : wr (W_X6_whose) σ0 s) : zw (W_X6_whose) σ0 (L_X6_whose_54 a1 a2 a3 n x4 x5 x6 s) := by
  unfold L_X6_whose_54
  exact zwf_III (fun r hr x4 x5 x6 t ht => wB_X6_whose_54 σ0 a1 a2 a3 r x4 x5 x6 t hr ht) n x4 x5 x6 s hs
theorem w_X6_whose (a1 : Int32) (a2 : Int32) (a3 : Int32) (σ0 : zg_S) : zw (W_X6_whose) σ0 (f_X6_whose a1 a2 a3 σ0) := by
  unfold f_X6_whose
  refine zw_call (w_X6_isSheet a1 σ0) (fun p k h => False.elim h) wr.rf (fun r48 σ49 hσ49 => ?_)
  refine zw_ite ?_ ?_
  · exact zw_some hσ49
  · refine zw_call (w_X6_within a2 0 60 σ49) (fun p k h => False.elim h) hσ49 (fun r58 σ59 hσ59 => ?_)
    refine zw_ite ?_ ?_
    · exact zw_some hσ59
    · refine zw_call (w_X6_within a3 0 1 σ59) (fun p k h => False.elim h) hσ59 (fun r68 σ69 hσ69 => ?_)
      refine zw_ite ?_ ?_
      · exact zw_some hσ69
      · refine zw_in (fun z1 => ?_)
        refine zw_call (w_X2_isMissing (53 + 2 * (Int32.toNatClampNeg a1)) σ69) (fun p k h => False.elim h) hσ69 (fun r80 σ81 hσ81 => ?_)
        refine zw_ite ?_ ?_
        · exact wL_X6_whose_54 σ0 a1 a2 a3 zfu 0 2147483647 0 σ81  hσ81
        · exact zw_some hσ81
theorem w_X6_why (a1 : Int32) (σ0 : zg_S) : zw (W_X6_why) σ0 (f_X6_why a1 σ0) := by
  unfold f_X6_why
  refine zw_call (w_X6_within a1 0 2 σ0) (fun p k h => False.elim h) wr.rf (fun r1 σ2 hσ2 => ?_)
  refine zw_ite ?_ ?_
  · exact zw_some hσ2
  · refine zw_in (fun z1 => ?_)
    exact zw_some hσ2
theorem wB_X6_wider_26 (σ0 : zg_S) (a1 : Int32) (a2 : Int32) (rec26_ : Int32 → zg_S → Option (Int32 × zg_S)) (x3 : Int32) (s : zg_S) (hrec26_ : ∀ (z0 : Int32) (s : zg_S), wr (W_X6_wider) σ0 s → zw (W_X6_wider) σ0 (rec26_ z0 s)) (hs : wr (W_X6_wider) σ0 s) : zw (W_X6_wider) σ0 (B_X6_wider_26 a1 a2 rec26_ x3 s) := by
  unfold B_X6_wider_26
  refine zw_ite ?_ ?_
  · exact zw_some hs
  · refine zw_call (w_X0_takeOver 165 153 s) (fun p k h => by unfold W_X0_takeOver at h; unfold W_X6_wider; omega) hs (fun r4 σ5 hσ5 => ?_)
    refine zw_call (w_X0_widen 165 x3 σ5) (fun p k h => by unfold W_X0_widen at h; unfold W_X6_wider; omega) hσ5 (fun r11 σ12 hσ12 => ?_)
    refine zw_call (w_X6_thinkOn a2 σ12) (fun p k h => by unfold W_X6_thinkOn at h; unfold W_X6_wider; omega) hσ12 (fun r18 σ19 hσ19 => ?_)
    refine zw_ite ?_ ?_
    · exact hrec26_ (x3 + 1) σ19 hσ19
    · exact zw_some hσ19
theorem wL_X6_wider_26 (σ0 : zg_S) (a1 : Int32) (a2 : Int32) (n : Nat) (x3 : Int32) (s : zg_S) (hs : wr (W_X6_wider) σ0 s) : zw (W_X6_wider) σ0 (L_X6_wider_26 a1 a2 n x3 s) := by
  unfold L_X6_wider_26
  exact zwf_I (fun r hr x3 t ht => wB_X6_wider_26 σ0 a1 a2 r x3 t hr ht) n x3 s hs
theorem w_X6_wider (a1 : Int32) (a2 : Int32) (σ0 : zg_S) : zw (W_X6_wider) σ0 (f_X6_wider a1 a2 σ0) := by
  unfold f_X6_wider
  refine zw_call (w_X6_within a1 0 9999 σ0) (fun p k h => False.elim h) wr.rf (fun r30 σ31 hσ31 => ?_)
  refine zw_ite ?_ ?_
  · exact zw_some hσ31
  · refine zw_call (w_X6_within a2 1 60 σ31) (fun p k h => False.elim h) hσ31 (fun r40 σ41 hσ41 => ?_)
    refine zw_ite ?_ ?_
    · exact zw_some hσ41
    · exact wL_X6_wider_26 σ0 a1 a2 zfu 1 σ41  hσ41
theorem wB_X6_without_109 (σ0 : zg_S) (a1 : Int32) (a2 : Int32) (rec43_ : Int32 → Int32 → Int32 → zg_S → Option (Int32 × zg_S)) (x3 : Int32) (x4 : Int32) (x5 : Int32) (s : zg_S) (hrec43_ : ∀ (z0 : Int32) (z1 : Int32) (z2 : Int32) (s : zg_S), wr (W_X6_without) σ0 s → zw (W_X6_without) σ0 (rec43_ z0 z1 z2 s)) (hs : wr (W_X6_without) σ0 s) : zw (W_X6_without) σ0 (B_X6_without_109 a1 a2 rec43_ x3 x4 x5 s) := by
  unfold B_X6_without_109
  exact hrec43_ x3 x4 (x5 + 1) s hs
theorem wB_X6_without_43 (σ0 : zg_S) (a1 : Int32) (a2 : Int32) (rec43_ : Int32 → Int32 → Int32 → zg_S → Option (Int32 × zg_S)) (x3 : Int32) (x4 : Int32) (x5 : Int32) (s : zg_S) (hrec43_ : ∀ (z0 : Int32) (z1 : Int32) (z2 : Int32) (s : zg_S), wr (W_X6_without) σ0 s → zw (W_X6_without) σ0 (rec43_ z0 z1 z2 s)) (hs : wr (W_X6_without) σ0 s) : zw (W_X6_without) σ0 (B_X6_without_43 a1 a2 rec43_ x3 x4 x5 s) := by
  unfold B_X6_without_43
  refine zw_ite ?_ ?_
  · refine zw_ite ?_ ?_
    · exact zw_some hs
    · exact zw_some hs
  · refine zw_call (w_X0_takeOver 165 153 s) (fun p k h => by unfold W_X0_takeOver at h; unfold W_X6_without; omega) hs (fun r9 σ10 hσ10 => ?_)
    refine zw_in (fun z1 => ?_)
    refine zw_up (by unfold W_X6_without; omega) hσ10 (fun σ19 hσ19 => ?_)
    refine zw_call (w_X6_thinkOn a1 σ19) (fun p k h => by unfold W_X6_thinkOn at h; unfold W_X6_without; omega) hσ19 (fun r25 σ26 hσ26 => ?_)
    refine zw_ite ?_ ?_
    · exact wB_X6_without_109 σ0 a1 a2 rec43_ x3 x4 x5 σ26 hrec43_ hσ26
    · exact wB_X6_without_109 σ0 a1 a2 rec43_ x5 (σ26 165 10) x5 σ26 hrec43_ hσ26
theorem wL_X6_without_43 (σ0 : zg_S) (a1 : Int32) (a2 : Int32) (n : Nat) (x3 : Int32) (x4 : Int32) (x5 : Int32) (s : zg_S) (hs : wr (W_X6_without) σ0 s) : zw (W_X6_without) σ0 (L_X6_without_43 a1 a2 n x3 x4 x5 s) := by
  unfold L_X6_without_43
  exact zwf_III (fun r hr x3 x4 x5 t ht => wB_X6_without_43 σ0 a1 a2 r x3 x4 x5 t hr ht) n x3 x4 x5 s hs
theorem w_X6_without (a1 : Int32) (a2 : Int32) (σ0 : zg_S) : zw (W_X6_without) σ0 (f_X6_without a1 a2 σ0) := by
  unfold f_X6_without
  refine zw_call (w_X6_within a1 1 60 σ0) (fun p k h => False.elim h) wr.rf (fun r39 σ40 hσ40 => ?_)
  refine zw_ite ?_ ?_
  · exact zw_some hσ40
  · refine zw_call (w_X6_within a2 0 1 σ40) (fun p k h => False.elim h) hσ40 (fun r49 σ50 hσ50 => ?_)
    refine zw_ite ?_ ?_
    · exact zw_some hσ50
    · refine zw_ite ?_ ?_
      · exact zw_some hσ50
      · exact wL_X6_without_43 σ0 a1 a2 zfu 0 (-1) 0 σ50  hσ50
theorem w_X7_isIn (a0 : Int64) (a2 : Int64) (a4 : Int64) (σ0 : zg_S) : zw (W_X7_isIn) σ0 (f_X7_isIn a0 a2 a4 σ0) := by
  unfold f_X7_isIn
  refine zw_ite ?_ ?_
  · exact zw_some wr.rf
  · refine zw_ite ?_ ?_
    · exact zw_some wr.rf
    · exact zw_some wr.rf
theorem w_X7_isStall (a1 : Int32) (σ0 : zg_S) : zw (W_X7_isStall) σ0 (f_X7_isStall a1 σ0) := by
  unfold f_X7_isStall
  refine zw_call (w_X7_isIn (Int32.toInt64 a1) (Int32.toInt64 0) (Int32.toInt64 ((σ0 1 0) - 1)) σ0) (fun p k h => False.elim h) wr.rf (fun r1 σ2 hσ2 => ?_)
  refine zw_ite ?_ zw_none
  exact zw_some hσ2
theorem w_X7_of (a1 : Int32) (a2 : Int32) (σ0 : zg_S) : zw (W_X7_of) σ0 (f_X7_of a1 a2 σ0) := by
  unfold f_X7_of
  refine zw_in (fun z1 => ?_)
  exact zw_some wr.rf
theorem wB_X7_isOf_19 (σ0 : zg_S) (a0 : Int32) (a1 : Int32) (s : zg_S) (hs : wr (W_X7_isOf) σ0 s) : zw (W_X7_isOf) σ0 (B_X7_isOf_19 a0 a1 s) := by
  unfold B_X7_isOf_19
  refine zw_ite ?_ ?_
  · refine zw_ite ?_ ?_
    · exact zw_some hs
    · exact zw_some hs
  · exact zw_some hs
theorem w_X7_isOf (a0 : Int32) (a1 : Int32) (σ0 : zg_S) : zw (W_X7_isOf) σ0 (f_X7_isOf a0 a1 σ0) := by
  unfold f_X7_isOf
  refine zw_ite ?_ ?_
  · exact zw_some wr.rf
  · refine zw_ite ?_ ?_
    · exact zw_some wr.rf
    · refine zw_ite ?_ ?_
      · refine zw_ite ?_ ?_
        · exact zw_some wr.rf
        · exact wB_X7_isOf_19 σ0 a0 a1 σ0  wr.rf
      · exact wB_X7_isOf_19 σ0 a0 a1 σ0  wr.rf
theorem w_X7_as (a1 : Int32) (a2 : Int32) (σ0 : zg_S) : zw (W_X7_as) σ0 (f_X7_as a1 a2 σ0) := by
  unfold f_X7_as
  refine zw_call (w_X7_isStall a1 σ0) (fun p k h => False.elim h) wr.rf (fun r1 σ2 hσ2 => ?_)
  refine zw_ite ?_ ?_
  · exact zw_some hσ2
  · refine zw_call (w_X7_isIn (Int32.toInt64 a2) (Int32.toInt64 0) (Int32.toInt64 5) σ2) (fun p k h => False.elim h) hσ2 (fun r11 σ12 hσ12 => ?_)
    refine zw_ite ?_ ?_
    · exact zw_some hσ12
    · refine zw_call (w_X7_of a1 0 σ12) (fun p k h => False.elim h) hσ12 (fun r20 σ21 hσ21 => ?_)
      refine zw_call (w_X7_isOf r20 a2 σ21) (fun p k h => False.elim h) hσ21 (fun r27 σ28 hσ28 => ?_)
      refine zw_ite ?_ ?_
      · exact zw_some hσ28
      · refine zw_call (w_X7_of a1 3 σ28) (fun p k h => False.elim h) hσ28 (fun r37 σ38 hσ38 => ?_)
        exact zw_some hσ38
theorem w_X7_isSlot (a0 : Int32) (σ0 : zg_S) : zw (W_X7_isSlot) σ0 (f_X7_isSlot a0 σ0) := by
  unfold f_X7_isSlot
  refine zw_call (w_X7_isIn (Int32.toInt64 a0) (Int32.toInt64 0) (Int32.toInt64 4) σ0) (fun p k h => False.elim h) wr.rf (fun r1 σ2 hσ2 => ?_)
  refine zw_ite ?_ zw_none
  exact zw_some hσ2
end
section
theorem w_X7_ask (a1 : Int32) (a2 : Int32) (σ0 : zg_S) : zw (W_X7_ask) σ0 (f_X7_ask a1 a2 σ0) := by
  unfold f_X7_ask
  refine zw_call (w_X7_isSlot a1 σ0) (fun p k h => False.elim h) wr.rf (fun r1 σ2 hσ2 => ?_)
  refine zw_ite ?_ ?_
  · exact zw_some hσ2
  · refine zw_call (w_X7_isIn (Int32.toInt64 a2) (Int32.toInt64 0) (Int32.toInt64 5) σ2) (fun p k h => False.elim h) hσ2 (fun r11 σ12 hσ12 => ?_)
    refine zw_ite ?_ ?_
    · exact zw_some hσ12
    · refine zw_in (fun z1 => ?_)
      refine zw_ite ?_ ?_
      · exact zw_some hσ12
      · refine zw_ite ?_ ?_
        · refine zw_call (w_X7_isOf (σ12 8 (Int32.toNatClampNeg a1)) a2 σ12) (fun p k h => False.elim h) hσ12 (fun r28 σ29 hσ29 => ?_)
          refine zw_ite ?_ ?_
          · exact zw_some hσ29
          · exact zw_some hσ29
        · exact zw_some hσ12
theorem wB_X7_setAside_2 (σ0 : zg_S) (q1 : Nat) (q2 : Nat) (rec2_ : Int32 → zg_S → Option (Int32 × zg_S)) (x3 : Int32) (s : zg_S) (hrec2_ : ∀ (z0 : Int32) (s : zg_S), wr (W_X7_setAside q2) σ0 s → zw (W_X7_setAside q2) σ0 (rec2_ z0 s)) (hs : wr (W_X7_setAside q2) σ0 s) : zw (W_X7_setAside q2) σ0 (B_X7_setAside_2 q1 q2 rec2_ x3 s) := by
  unfold B_X7_setAside_2
  refine zw_ite ?_ ?_
  · exact zw_some hs
  · refine zw_in (fun z1 => ?_)
    refine zw_let (fun y7 => ?_)
    refine zw_in (fun z2 => ?_)
    refine zw_up (by unfold W_X7_setAside; omega) hs (fun σ13 hσ13 => ?_)
    exact hrec2_ (x3 + 1) σ13 hσ13
theorem wL_X7_setAside_2 (σ0 : zg_S) (q1 : Nat) (q2 : Nat) (n : Nat) (x3 : Int32) (s : zg_S) (hs : wr (W_X7_setAside q2) σ0 s) : zw (W_X7_setAside q2) σ0 (L_X7_setAside_2 q1 q2 n x3 s) := by
  unfold L_X7_setAside_2
  exact zwf_I (fun r hr x3 t ht => wB_X7_setAside_2 σ0 q1 q2 r x3 t hr ht) n x3 s hs
theorem w_X7_setAside (q1 : Nat) (q2 : Nat) (σ0 : zg_S) : zw (W_X7_setAside q2) σ0 (f_X7_setAside q1 q2 σ0) := by
  unfold f_X7_setAside
  exact wL_X7_setAside_2 σ0 q1 q2 zfu 0 σ0  wr.rf
theorem w_X7_back  (σ0 : zg_S) : zw (W_X7_back) σ0 (f_X7_back  σ0) := by
  unfold f_X7_back
  refine zw_ite ?_ ?_
  · exact zw_some wr.rf
  · refine zw_call (w_X7_setAside 2 1 σ0) (fun p k h => by unfold W_X7_setAside at h; unfold W_X7_back; omega) wr.rf (fun r3 σ4 hσ4 => ?_)
    exact zw_some hσ4
theorem w_X7_becomes (a1 : Int32) (a2 : Int32) (σ0 : zg_S) : zw (W_X7_becomes a1) σ0 (f_X7_becomes a1 a2 σ0) := by
  unfold f_X7_becomes
  refine zw_in (fun z1 => ?_)
  refine zw_up (by unfold W_X7_becomes; omega) wr.rf (fun σ6 hσ6 => ?_)
  exact zw_some hσ6
theorem wB_X7_laysBy_2 (σ0 : zg_S) (rec2_ : Int32 → zg_S → Option (Int32 × zg_S)) (x1 : Int32) (s : zg_S) (hrec2_ : ∀ (z0 : Int32) (s : zg_S), wr (W_X7_laysBy) σ0 s → zw (W_X7_laysBy) σ0 (rec2_ z0 s)) (hs : wr (W_X7_laysBy) σ0 s) : zw (W_X7_laysBy) σ0 (B_X7_laysBy_2 rec2_ x1 s) := by
  unfold B_X7_laysBy_2
  refine zw_ite ?_ ?_
  · exact zw_some hs
  · refine zw_in (fun z1 => ?_)
    refine zw_in (fun z2 => ?_)
    refine zw_up (by unfold W_X7_laysBy; omega) hs (fun σ10 hσ10 => ?_)
    exact hrec2_ (x1 + 1) σ10 hσ10
theorem wL_X7_laysBy_2 (σ0 : zg_S)  (n : Nat) (x1 : Int32) (s : zg_S) (hs : wr (W_X7_laysBy) σ0 s) : zw (W_X7_laysBy) σ0 (L_X7_laysBy_2  n x1 s) := by
  unfold L_X7_laysBy_2
  exact zwf_I (fun r hr x1 t ht => wB_X7_laysBy_2 σ0  r x1 t hr ht) n x1 s hs
theorem w_X7_laysBy  (σ0 : zg_S) : zw (W_X7_laysBy) σ0 (f_X7_laysBy  σ0) := by
  unfold f_X7_laysBy
  exact wL_X7_laysBy_2 σ0 zfu 0 σ0  wr.rf
theorem w_X7_within (a0 : Int32) (a1 : Int32) (σ0 : zg_S) : zw (W_X7_within) σ0 (f_X7_within a0 a1 σ0) := by
  unfold f_X7_within
  refine zw_ite ?_ ?_
  · refine zw_ite ?_ ?_
    · exact zw_some wr.rf
    · exact zw_some wr.rf
  · exact zw_some wr.rf
theorem w_X7_holds  (σ0 : zg_S) : zw (W_X7_holds) σ0 (f_X7_holds  σ0) := by
  unfold f_X7_holds
  refine zw_call (w_X7_within (σ0 1 7) (12 - (σ0 1 8)) σ0) (fun p k h => False.elim h) wr.rf (fun r1 σ2 hσ2 => ?_)
  refine zw_up (by unfold W_X7_holds; omega) hσ2 (fun σ8 hσ8 => ?_)
  exact zw_some hσ8
theorem w_X7_shadeFrom  (σ0 : zg_S) : zw (W_X7_shadeFrom) σ0 (f_X7_shadeFrom  σ0) := by
  unfold f_X7_shadeFrom
  exact zw_some wr.rf
theorem w_X7_isShaded (a1 : Int32) (σ0 : zg_S) : zw (W_X7_isShaded) σ0 (f_X7_isShaded a1 σ0) := by
  unfold f_X7_isShaded
  refine zw_call (w_X7_of a1 1 σ0) (fun p k h => False.elim h) wr.rf (fun r1 σ2 hσ2 => ?_)
  refine zw_call (w_X7_shadeFrom σ2) (fun p k h => False.elim h) hσ2 (fun r8 σ9 hσ9 => ?_)
  refine zw_call (w_X7_shadeFrom σ9) (fun p k h => False.elim h) hσ9 (fun r15 σ16 hσ16 => ?_)
  refine zw_call (w_X7_isIn (Int32.toInt64 r1) (Int32.toInt64 r8) (Int32.toInt64 ((r15 + (σ16 1 8)) - 1)) σ16) (fun p k h => False.elim h) hσ16 (fun r22 σ23 hσ23 => ?_)
  refine zw_ite ?_ zw_none
  exact zw_some hσ23
theorem wB_X7_payNow_33 (σ0 : zg_S) (rec4_ : Int32 → Int32 → zg_S → Option (Int32 × zg_S)) (x2 : Int32) (y0 : Int32) (y1 : Int32) (s : zg_S) (hrec4_ : ∀ (z0 : Int32) (z1 : Int32) (s : zg_S), wr (W_X7_payNow) σ0 s → zw (W_X7_payNow) σ0 (rec4_ z0 z1 s)) (hs : wr (W_X7_payNow) σ0 s) : zw (W_X7_payNow) σ0 (B_X7_payNow_33 rec4_ x2 y0 y1 s) := by
  unfold B_X7_payNow_33
  exact hrec4_ (y1 + y0) (x2 + 1) s hs
theorem wB_X7_payNow_4 (σ0 : zg_S) (rec4_ : Int32 → Int32 → zg_S → Option (Int32 × zg_S)) (x1 : Int32) (x2 : Int32) (s : zg_S) (hrec4_ : ∀ (z0 : Int32) (z1 : Int32) (s : zg_S), wr (W_X7_payNow) σ0 s → zw (W_X7_payNow) σ0 (rec4_ z0 z1 s)) (hs : wr (W_X7_payNow) σ0 s) : zw (W_X7_payNow) σ0 (B_X7_payNow_4 rec4_ x1 x2 s) := by
  unfold B_X7_payNow_4
  refine zw_ite ?_ ?_
  · exact zw_some hs
  · refine zw_call (w_X7_isShaded x2 s) (fun p k h => False.elim h) hs (fun r8 σ9 hσ9 => ?_)
    refine zw_ite ?_ ?_
    · exact wB_X7_payNow_33 σ0 rec4_ x2 0 x1 σ9 hrec4_ hσ9
    · refine zw_call (w_X7_of x2 3 σ9) (fun p k h => False.elim h) hσ9 (fun r18 σ19 hσ19 => ?_)
      exact wB_X7_payNow_33 σ0 rec4_ x2 r18 x1 σ19 hrec4_ hσ19
theorem wL_X7_payNow_4 (σ0 : zg_S)  (n : Nat) (x1 : Int32) (x2 : Int32) (s : zg_S) (hs : wr (W_X7_payNow) σ0 s) : zw (W_X7_payNow) σ0 (L_X7_payNow_4  n x1 x2 s) := by
  unfold L_X7_payNow_4
  exact zwf_II (fun r hr x1 x2 t ht => wB_X7_payNow_4 σ0  r x1 x2 t hr ht) n x1 x2 s hs
theorem w_X7_payNow  (σ0 : zg_S) : zw (W_X7_payNow) σ0 (f_X7_payNow  σ0) := by
  unfold f_X7_payNow
  exact wL_X7_payNow_4 σ0 zfu 0 0 σ0  wr.rf
theorem w_X7_payIf (a1 : Int32) (σ0 : zg_S) : zw (W_X7_payIf) σ0 (f_X7_payIf a1 σ0) := by
  unfold f_X7_payIf
  refine zw_up (by unfold W_X7_payIf; omega) wr.rf (fun σ3 hσ3 => ?_)
  refine zw_call (w_X7_holds σ3) (fun p k h => by unfold W_X7_holds at h; unfold W_X7_payIf; omega) hσ3 (fun r9 σ10 hσ10 => ?_)
  refine zw_call (w_X7_payNow σ10) (fun p k h => False.elim h) hσ10 (fun r16 σ17 hσ17 => ?_)
  refine zw_up (by unfold W_X7_payIf; omega) hσ17 (fun σ25 hσ25 => ?_)
  exact zw_some hσ25
theorem w_X7_textAt (a1 : Int32) (σ0 : zg_S) : zw (W_X7_textAt) σ0 (f_X7_textAt a1 σ0) := by
  unfold f_X7_textAt
  exact zw_some wr.rf
theorem wB_X7_counts_33 (σ0 : zg_S) (a1 : Int32) (rec4_ : Int32 → Int32 → zg_S → Option (Int32 × zg_S)) (x3 : Int32) (y0 : Int32) (s : zg_S) (hrec4_ : ∀ (z0 : Int32) (z1 : Int32) (s : zg_S), wr (W_X7_counts) σ0 s → zw (W_X7_counts) σ0 (rec4_ z0 z1 s)) (hs : wr (W_X7_counts) σ0 s) : zw (W_X7_counts) σ0 (B_X7_counts_33 a1 rec4_ x3 y0 s) := by
  unfold B_X7_counts_33
  exact hrec4_ y0 (x3 + 1) s hs
theorem wB_X7_counts_4 (σ0 : zg_S) (a1 : Int32) (rec4_ : Int32 → Int32 → zg_S → Option (Int32 × zg_S)) (x2 : Int32) (x3 : Int32) (s : zg_S) (hrec4_ : ∀ (z0 : Int32) (z1 : Int32) (s : zg_S), wr (W_X7_counts) σ0 s → zw (W_X7_counts) σ0 (rec4_ z0 z1 s)) (hs : wr (W_X7_counts) σ0 s) : zw (W_X7_counts) σ0 (B_X7_counts_4 a1 rec4_ x2 x3 s) := by
  unfold B_X7_counts_4
  refine zw_ite ?_ ?_
  · exact zw_some hs
  · refine zw_call (w_X7_textAt x3 s) (fun p k h => False.elim h) hs (fun r8 σ9 hσ9 => ?_)
    refine zw_in (fun z1 => ?_)
    refine zw_ite ?_ ?_
    · exact wB_X7_counts_33 σ0 a1 rec4_ x3 x3 σ9 hrec4_ hσ9
    · exact wB_X7_counts_33 σ0 a1 rec4_ x3 x2 σ9 hrec4_ hσ9
theorem wL_X7_counts_4 (σ0 : zg_S) (a1 : Int32) (n : Nat) (x2 : Int32) (x3 : Int32) (s : zg_S) (hs : wr (W_X7_counts) σ0 s) : zw (W_X7_counts) σ0 (L_X7_counts_4 a1 n x2 x3 s) := by
  unfold L_X7_counts_4
  exact zwf_II (fun r hr x2 x3 t ht => wB_X7_counts_4 σ0 a1 r x2 x3 t hr ht) n x2 x3 s hs
theorem w_X7_counts (a1 : Int32) (σ0 : zg_S) : zw (W_X7_counts) σ0 (f_X7_counts a1 σ0) := by
  unfold f_X7_counts
  exact wL_X7_counts_4 σ0 a1 zfu (-1) 0 σ0  wr.rf
theorem w_X7_off (a0 : Int32) (a1 : Int32) (σ0 : zg_S) : zw (W_X7_off) σ0 (f_X7_off a0 a1 σ0) := by
  unfold f_X7_off
  refine zw_ite ?_ ?_
  · exact zw_some wr.rf
  · exact zw_some wr.rf
theorem w_X7_heat  (σ0 : zg_S) : zw (W_X7_heat) σ0 (f_X7_heat  σ0) := by
  unfold f_X7_heat
  refine zw_call (w_X7_off ((σ0 1 2) - (σ0 1 2) / 10 * 10) 5 σ0) (fun p k h => False.elim h) wr.rf (fun r1 σ2 hσ2 => ?_)
  exact zw_some hσ2
theorem wB_X7_joined_197 (σ0 : zg_S) (a0 : Int32) (a1 : Int32) (a2 : Int32) (s : zg_S) (hs : wr (W_X7_joined) σ0 s) : zw (W_X7_joined) σ0 (B_X7_joined_197 a0 a1 a2 s) := by
  unfold B_X7_joined_197
  refine zw_ite ?_ ?_
  · refine zw_ite ?_ ?_
    · exact zw_some hs
    · exact zw_some hs
  · exact zw_some hs
theorem w_X7_joined (a0 : Int32) (a1 : Int32) (a2 : Int32) (σ0 : zg_S) : zw (W_X7_joined) σ0 (f_X7_joined a0 a1 a2 σ0) := by
  unfold f_X7_joined
  refine zw_ite ?_ ?_
  · refine zw_ite ?_ ?_
    · exact zw_some wr.rf
    · refine zw_ite ?_ ?_
      · exact zw_some wr.rf
      · exact zw_some wr.rf
  · refine zw_ite ?_ ?_
    · exact wB_X7_joined_197 σ0 a0 a1 a2 σ0  wr.rf
    · refine zw_ite ?_ ?_
      · exact wB_X7_joined_197 σ0 a0 a1 a2 σ0  wr.rf
      · refine zw_ite ?_ ?_
        · exact wB_X7_joined_197 σ0 a0 a1 a2 σ0  wr.rf
        · refine zw_ite ?_ ?_
          · exact zw_some wr.rf
          · refine zw_ite ?_ ?_
            · exact zw_some wr.rf
            · refine zw_ite ?_ ?_
              · exact wB_X7_joined_197 σ0 a0 a1 a2 σ0  wr.rf
              · refine zw_ite ?_ ?_
                · exact zw_some wr.rf
                · refine zw_ite ?_ ?_
                  · exact wB_X7_joined_197 σ0 a0 a1 a2 σ0  wr.rf
                  · refine zw_ite ?_ ?_
                    · refine zw_ite ?_ ?_
                      · exact zw_some wr.rf
                      · refine zw_ite ?_ ?_
                        · exact zw_some wr.rf
                        · refine zw_ite zw_none ?_
                          exact zw_some wr.rf
                    · refine zw_ite ?_ ?_
                      · exact wB_X7_joined_197 σ0 a0 a1 a2 σ0  wr.rf
                      · refine zw_ite ?_ ?_
                        · exact wB_X7_joined_197 σ0 a0 a1 a2 σ0  wr.rf
                        · refine zw_ite ?_ ?_
                          · exact wB_X7_joined_197 σ0 a0 a1 a2 σ0  wr.rf
                          · refine zw_ite ?_ ?_
                            · exact wB_X7_joined_197 σ0 a0 a1 a2 σ0  wr.rf
                            · refine zw_ite ?_ ?_
                              · exact wB_X7_joined_197 σ0 a0 a1 a2 σ0  wr.rf
                              · refine zw_ite ?_ ?_
                                · exact wB_X7_joined_197 σ0 a0 a1 a2 σ0  wr.rf
                                · refine zw_ite ?_ ?_
                                  · exact wB_X7_joined_197 σ0 a0 a1 a2 σ0  wr.rf
                                  · refine zw_ite ?_ ?_
                                    · exact wB_X7_joined_197 σ0 a0 a1 a2 σ0  wr.rf
                                    · refine zw_ite ?_ ?_
                                      · exact wB_X7_joined_197 σ0 a0 a1 a2 σ0  wr.rf
                                      · refine zw_ite ?_ ?_
                                        · exact wB_X7_joined_197 σ0 a0 a1 a2 σ0  wr.rf
                                        · refine zw_ite ?_ ?_
                                          · exact wB_X7_joined_197 σ0 a0 a1 a2 σ0  wr.rf
                                          · refine zw_ite ?_ ?_
                                            · exact wB_X7_joined_197 σ0 a0 a1 a2 σ0  wr.rf
                                            · refine zw_ite ?_ ?_
                                              · refine zw_ite ?_ ?_
                                                · exact zw_some wr.rf
                                                · exact zw_some wr.rf
                                              · refine zw_ite ?_ ?_
                                                · refine zw_ite ?_ ?_
                                                  · exact zw_some wr.rf
                                                  · exact zw_some wr.rf
                                                · refine zw_ite ?_ ?_
                                                  · refine zw_ite ?_ ?_
                                                    · exact zw_some wr.rf
                                                    · exact zw_some wr.rf
                                                  · exact wB_X7_joined_197 σ0 a0 a1 a2 σ0  wr.rf
theorem wB_X7_worked_157 (σ0 : zg_S) (a1 : Int32) (rec4_ : Int32 → Int32 → zg_S → Option (Int32 × zg_S)) (x2 : Int32) (x3 : Int32) (s : zg_S) (hrec4_ : ∀ (z0 : Int32) (z1 : Int32) (s : zg_S), wr (W_X7_worked) σ0 s → zw (W_X7_worked) σ0 (rec4_ z0 z1 s)) (hs : wr (W_X7_worked) σ0 s) : zw (W_X7_worked) σ0 (B_X7_worked_157 a1 rec4_ x2 x3 s) := by
  unfold B_X7_worked_157
  exact hrec4_ x2 (x3 + 1) s hs
theorem wB_X7_worked_123 (σ0 : zg_S) (a1 : Int32) (rec4_ : Int32 → Int32 → zg_S → Option (Int32 × zg_S)) (x2 : Int32) (x3 : Int32) (y0 : Int32) (y1 : Int32) (s : zg_S) (hrec4_ : ∀ (z0 : Int32) (z1 : Int32) (s : zg_S), wr (W_X7_worked) σ0 s → zw (W_X7_worked) σ0 (rec4_ z0 z1 s)) (hs : wr (W_X7_worked) σ0 s) : zw (W_X7_worked) σ0 (B_X7_worked_123 a1 rec4_ x2 x3 y0 y1 s) := by
  unfold B_X7_worked_123
  refine zw_in (fun z1 => ?_)
  refine zw_up (by unfold W_X7_worked; omega) hs (fun σ6 hσ6 => ?_)
  exact wB_X7_worked_157 σ0 a1 rec4_ x2 x3 σ6 hrec4_ hσ6
theorem wB_X7_worked_86 (σ0 : zg_S) (a1 : Int32) (rec4_ : Int32 → Int32 → zg_S → Option (Int32 × zg_S)) (x2 : Int32) (x3 : Int32) (y0 : Int32) (y1 : Int32) (s : zg_S) (hrec4_ : ∀ (z0 : Int32) (z1 : Int32) (s : zg_S), wr (W_X7_worked) σ0 s → zw (W_X7_worked) σ0 (rec4_ z0 z1 s)) (hs : wr (W_X7_worked) σ0 s) : zw (W_X7_worked) σ0 (B_X7_worked_86 a1 rec4_ x2 x3 y0 y1 s) := by
  unfold B_X7_worked_86
  refine zw_in (fun z1 => ?_)
  refine zw_up (by unfold W_X7_worked; omega) hs (fun σ15 hσ15 => ?_)
  exact wB_X7_worked_157 σ0 a1 rec4_ (x2 + 1) x3 σ15 hrec4_ hσ15
theorem wB_X7_worked_4 (σ0 : zg_S) (a1 : Int32) (rec4_ : Int32 → Int32 → zg_S → Option (Int32 × zg_S)) (x2 : Int32) (x3 : Int32) (s : zg_S) (hrec4_ : ∀ (z0 : Int32) (z1 : Int32) (s : zg_S), wr (W_X7_worked) σ0 s → zw (W_X7_worked) σ0 (rec4_ z0 z1 s)) (hs : wr (W_X7_worked) σ0 s) : zw (W_X7_worked) σ0 (B_X7_worked_4 a1 rec4_ x2 x3 s) := by
  unfold B_X7_worked_4
  refine zw_call (w_X7_textAt a1 s) (fun p k h => False.elim h) hs (fun r23 σ24 hσ24 => ?_)
  refine zw_in (fun z1 => ?_)
  refine zw_ite ?_ ?_
  · exact zw_some hσ24
  · refine zw_call (w_X7_textAt a1 σ24) (fun p k h => False.elim h) hσ24 (fun r36 σ37 hσ37 => ?_)
    refine zw_in (fun z2 => ?_)
    refine zw_let (fun y46 => ?_)
    refine zw_call (w_X7_textAt a1 σ37) (fun p k h => False.elim h) hσ37 (fun r51 σ52 hσ52 => ?_)
    refine zw_in (fun z3 => ?_)
    refine zw_let (fun y61 => ?_)
    refine zw_ite ?_ ?_
    · refine zw_ite ?_ ?_
      · refine zw_in (fun z4 => ?_)
        refine zw_ite ?_ ?_
        · exact wB_X7_worked_123 σ0 a1 rec4_ x2 x3 1 (x2 - 1) σ52 hrec4_ hσ52
        · exact wB_X7_worked_123 σ0 a1 rec4_ x2 x3 0 (x2 - 1) σ52 hrec4_ hσ52
      · refine zw_in (fun z5 => ?_)
        refine zw_in (fun z6 => ?_)
        refine zw_call (w_X7_joined y61 (σ52 15 (Int32.toNatClampNeg ((x2 + (-1)) - 1))) (σ52 15 (Int32.toNatClampNeg (x2 + (-1)))) σ52) (fun p k h => False.elim h) hσ52 (fun r78 σ79 hσ79 => ?_)
        refine zw_up (by unfold W_X7_worked; omega) hσ79 (fun σ85 hσ85 => ?_)
        exact wB_X7_worked_157 σ0 a1 rec4_ (x2 + (-1)) x3 σ85 hrec4_ hσ85
    · refine zw_ite ?_ ?_
      · exact wB_X7_worked_86 σ0 a1 rec4_ x2 x3 y61 x2 σ52 hrec4_ hσ52
      · refine zw_in (fun z7 => ?_)
        exact wB_X7_worked_86 σ0 a1 rec4_ x2 x3 (σ52 14 (Int32.toNatClampNeg y61)) x2 σ52 hrec4_ hσ52
theorem wL_X7_worked_4 (σ0 : zg_S) (a1 : Int32) (n : Nat) (x2 : Int32) (x3 : Int32) (s : zg_S) (hs : wr (W_X7_worked) σ0 s) : zw (W_X7_worked) σ0 (L_X7_worked_4 a1 n x2 x3 s) := by
  unfold L_X7_worked_4
  exact zwf_II (fun r hr x2 x3 t ht => wB_X7_worked_4 σ0 a1 r x2 x3 t hr ht) n x2 x3 s hs
theorem w_X7_worked (a1 : Int32) (σ0 : zg_S) : zw (W_X7_worked) σ0 (f_X7_worked a1 σ0) := by
  unfold f_X7_worked
  exact wL_X7_worked_4 σ0 a1 zfu 0 0 σ0  wr.rf
theorem w_X7_melts (a1 : Int32) (σ0 : zg_S) : zw (W_X7_melts) σ0 (f_X7_melts a1 σ0) := by
  unfold f_X7_melts
  refine zw_call (w_X7_counts 0 σ0) (fun p k h => False.elim h) wr.rf (fun r1 σ2 hσ2 => ?_)
  refine zw_ite ?_ ?_
  · refine zw_call (w_X7_heat σ2) (fun p k h => False.elim h) hσ2 (fun r12 σ13 hσ13 => ?_)
    refine zw_up (by unfold W_X7_melts; omega) hσ13 (fun σ19 hσ19 => ?_)
    refine zw_call (w_X7_of a1 2 σ19) (fun p k h => False.elim h) hσ19 (fun r25 σ26 hσ26 => ?_)
    refine zw_up (by unfold W_X7_melts; omega) hσ26 (fun σ32 hσ32 => ?_)
    refine zw_call (w_X7_of a1 3 σ32) (fun p k h => False.elim h) hσ32 (fun r38 σ39 hσ39 => ?_)
    refine zw_up (by unfold W_X7_melts; omega) hσ39 (fun σ45 hσ45 => ?_)
    refine zw_call (w_X7_worked r1 σ45) (fun p k h => by unfold W_X7_worked at h; unfold W_X7_melts; omega) hσ45 (fun r51 σ52 hσ52 => ?_)
    refine zw_call (w_X7_of a1 2 σ52) (fun p k h => False.elim h) hσ52 (fun r58 σ59 hσ59 => ?_)
    refine zw_call (w_X7_within r51 r58 σ59) (fun p k h => False.elim h) hσ59 (fun r65 σ66 hσ66 => ?_)
    exact zw_some hσ66
  · refine zw_call (w_X7_heat σ2) (fun p k h => False.elim h) hσ2 (fun r73 σ74 hσ74 => ?_)
    exact zw_some hσ74
theorem wB_X7_spoils_109 (σ0 : zg_S) (a1 : Int32) (x2 : Int32) (s : zg_S) (hs : wr (W_X7_spoils) σ0 s) : zw (W_X7_spoils) σ0 (B_X7_spoils_109 a1 x2 s) := by
  unfold B_X7_spoils_109
  refine zw_call (w_X7_of a1 2 s) (fun p k h => False.elim h) hs (fun r1 σ2 hσ2 => ?_)
  refine zw_ite ?_ ?_
  · exact zw_some hσ2
  · refine zw_call (w_X7_of a1 2 σ2) (fun p k h => False.elim h) hσ2 (fun r11 σ12 hσ12 => ?_)
    exact zw_some hσ12
theorem wB_X7_spoils_25 (σ0 : zg_S) (a1 : Int32) (y0 : Int32) (s : zg_S) (hs : wr (W_X7_spoils) σ0 s) : zw (W_X7_spoils) σ0 (B_X7_spoils_25 a1 y0 s) := by
  unfold B_X7_spoils_25
  exact wB_X7_spoils_109 σ0 a1 y0 s  hs
theorem w_X7_spoils (a1 : Int32) (σ0 : zg_S) : zw (W_X7_spoils) σ0 (f_X7_spoils a1 σ0) := by
  unfold f_X7_spoils
  refine zw_call (w_X7_isShaded a1 σ0) (fun p k h => False.elim h) wr.rf (fun r22 σ23 hσ23 => ?_)
  refine zw_ite ?_ ?_
  · refine zw_call (w_X7_of a1 0 σ23) (fun p k h => False.elim h) hσ23 (fun r31 σ32 hσ32 => ?_)
    refine zw_ite ?_ ?_
    · refine zw_call (w_X7_melts a1 σ32) (fun p k h => by unfold W_X7_melts at h; unfold W_X7_spoils; omega) hσ32 (fun r98 σ99 hσ99 => ?_)
      exact wB_X7_spoils_109 σ0 a1 r98 σ99  hσ99
    · refine zw_call (w_X7_of a1 0 σ32) (fun p k h => False.elim h) hσ32 (fun r40 σ41 hσ41 => ?_)
      refine zw_ite ?_ ?_
      · refine zw_call (w_X7_melts a1 σ41) (fun p k h => by unfold W_X7_melts at h; unfold W_X7_spoils; omega) hσ41 (fun r88 σ89 hσ89 => ?_)
        exact wB_X7_spoils_109 σ0 a1 (2 * r88) σ89  hσ89
      · refine zw_call (w_X7_of a1 0 σ41) (fun p k h => False.elim h) hσ41 (fun r49 σ50 hσ50 => ?_)
        refine zw_ite ?_ ?_
        · refine zw_call (w_X7_melts a1 σ50) (fun p k h => by unfold W_X7_melts at h; unfold W_X7_spoils; omega) hσ50 (fun r78 σ79 hσ79 => ?_)
          exact wB_X7_spoils_109 σ0 a1 ((2 * r78) + 5) σ79  hσ79
        · refine zw_call (w_X7_of a1 0 σ50) (fun p k h => False.elim h) hσ50 (fun r58 σ59 hσ59 => ?_)
          refine zw_ite ?_ ?_
          · refine zw_call (w_X7_melts a1 σ59) (fun p k h => by unfold W_X7_melts at h; unfold W_X7_spoils; omega) hσ59 (fun r68 σ69 hσ69 => ?_)
            exact wB_X7_spoils_109 σ0 a1 (r68 / 2) σ69  hσ69
          · exact wB_X7_spoils_109 σ0 a1 0 σ59  hσ59
  · refine zw_call (w_X7_of a1 0 σ23) (fun p k h => False.elim h) hσ23 (fun r108 σ109 hσ109 => ?_)
    refine zw_ite ?_ ?_
    · exact wB_X7_spoils_25 σ0 a1 2 σ109  hσ109
    · exact wB_X7_spoils_25 σ0 a1 0 σ109  hσ109
theorem wB_X7_hauls_125 (σ0 : zg_S) (rec67_ : Int32 → Int32 → zg_S → Option (Int32 × zg_S)) (x2 : Int32) (y0 : Int32) (s : zg_S) (hrec67_ : ∀ (z0 : Int32) (z1 : Int32) (s : zg_S), wr (W_X7_hauls) σ0 s → zw (W_X7_hauls) σ0 (rec67_ z0 z1 s)) (hs : wr (W_X7_hauls) σ0 s) : zw (W_X7_hauls) σ0 (B_X7_hauls_125 rec67_ x2 y0 s) := by
  unfold B_X7_hauls_125
  exact hrec67_ y0 (x2 + 1) s hs
theorem wB_X7_hauls_124 (σ0 : zg_S) (rec67_ : Int32 → Int32 → zg_S → Option (Int32 × zg_S)) (x1 : Int32) (x2 : Int32) (s : zg_S) (hrec67_ : ∀ (z0 : Int32) (z1 : Int32) (s : zg_S), wr (W_X7_hauls) σ0 s → zw (W_X7_hauls) σ0 (rec67_ z0 z1 s)) (hs : wr (W_X7_hauls) σ0 s) : zw (W_X7_hauls) σ0 (B_X7_hauls_124 rec67_ x1 x2 s) := by
  unfold B_X7_hauls_124
  exact wB_X7_hauls_125 σ0 rec67_ x2 x1 s hrec67_ hs
theorem wB_X7_hauls_120 (σ0 : zg_S) (rec67_ : Int32 → Int32 → zg_S → Option (Int32 × zg_S)) (x2 : Int32) (s : zg_S) (hrec67_ : ∀ (z0 : Int32) (z1 : Int32) (s : zg_S), wr (W_X7_hauls) σ0 s → zw (W_X7_hauls) σ0 (rec67_ z0 z1 s)) (hs : wr (W_X7_hauls) σ0 s) : zw (W_X7_hauls) σ0 (B_X7_hauls_120 rec67_ x2 s) := by
  unfold B_X7_hauls_120
  exact wB_X7_hauls_125 σ0 rec67_ x2 x2 s hrec67_ hs
theorem wB_X7_hauls_98 (σ0 : zg_S) (rec67_ : Int32 → Int32 → zg_S → Option (Int32 × zg_S)) (x1 : Int32) (x2 : Int32) (y0 : Int32) (s : zg_S) (hrec67_ : ∀ (z0 : Int32) (z1 : Int32) (s : zg_S), wr (W_X7_hauls) σ0 s → zw (W_X7_hauls) σ0 (rec67_ z0 z1 s)) (hs : wr (W_X7_hauls) σ0 s) : zw (W_X7_hauls) σ0 (B_X7_hauls_98 rec67_ x1 x2 y0 s) := by
  unfold B_X7_hauls_98
  refine zw_ite ?_ ?_
  · exact wB_X7_hauls_124 σ0 rec67_ x1 x2 s hrec67_ hs
  · refine zw_ite ?_ ?_
    · exact wB_X7_hauls_120 σ0 rec67_ x2 s hrec67_ hs
    · refine zw_call (w_X7_spoils x2 s) (fun p k h => by unfold W_X7_spoils at h; unfold W_X7_hauls; omega) hs (fun r13 σ14 hσ14 => ?_)
      refine zw_call (w_X7_spoils x1 σ14) (fun p k h => by unfold W_X7_spoils at h; unfold W_X7_hauls; omega) hσ14 (fun r20 σ21 hσ21 => ?_)
      refine zw_ite ?_ ?_
      · exact wB_X7_hauls_124 σ0 rec67_ x1 x2 σ21 hrec67_ hσ21
      · exact wB_X7_hauls_120 σ0 rec67_ x2 σ21 hrec67_ hσ21
theorem wB_X7_hauls_97 (σ0 : zg_S) (rec67_ : Int32 → Int32 → zg_S → Option (Int32 × zg_S)) (x1 : Int32) (x2 : Int32) (s : zg_S) (hrec67_ : ∀ (z0 : Int32) (z1 : Int32) (s : zg_S), wr (W_X7_hauls) σ0 s → zw (W_X7_hauls) σ0 (rec67_ z0 z1 s)) (hs : wr (W_X7_hauls) σ0 s) : zw (W_X7_hauls) σ0 (B_X7_hauls_97 rec67_ x1 x2 s) := by
  unfold B_X7_hauls_97
  exact wB_X7_hauls_98 σ0 rec67_ x1 x2 0 s hrec67_ hs
theorem wB_X7_hauls_67 (σ0 : zg_S) (rec67_ : Int32 → Int32 → zg_S → Option (Int32 × zg_S)) (x1 : Int32) (x2 : Int32) (s : zg_S) (hrec67_ : ∀ (z0 : Int32) (z1 : Int32) (s : zg_S), wr (W_X7_hauls) σ0 s → zw (W_X7_hauls) σ0 (rec67_ z0 z1 s)) (hs : wr (W_X7_hauls) σ0 s) : zw (W_X7_hauls) σ0 (B_X7_hauls_67 rec67_ x1 x2 s) := by
  unfold B_X7_hauls_67
  refine zw_ite ?_ ?_
  · refine zw_ite ?_ ?_
    · refine zw_call (w_X7_of x1 1 s) (fun p k h => False.elim h) hs (fun r34 σ35 hσ35 => ?_)
      refine zw_call (w_X7_shadeFrom σ35) (fun p k h => False.elim h) hσ35 (fun r41 σ42 hσ42 => ?_)
      refine zw_ite ?_ ?_
      · exact zw_some hσ42
      · exact zw_some hσ42
    · exact zw_some hs
  · refine zw_call (w_X7_isShaded x2 s) (fun p k h => False.elim h) hs (fun r53 σ54 hσ54 => ?_)
    refine zw_ite ?_ ?_
    · refine zw_call (w_X7_spoils x2 σ54) (fun p k h => by unfold W_X7_spoils at h; unfold W_X7_hauls; omega) hσ54 (fun r63 σ64 hσ64 => ?_)
      refine zw_ite ?_ ?_
      · exact wB_X7_hauls_97 σ0 rec67_ x1 x2 σ64 hrec67_ hσ64
      · exact wB_X7_hauls_98 σ0 rec67_ x1 x2 1 σ64 hrec67_ hσ64
    · exact wB_X7_hauls_97 σ0 rec67_ x1 x2 σ54 hrec67_ hσ54
theorem wL_X7_hauls_67 (σ0 : zg_S)  (n : Nat) (x1 : Int32) (x2 : Int32) (s : zg_S) (hs : wr (W_X7_hauls) σ0 s) : zw (W_X7_hauls) σ0 (L_X7_hauls_67  n x1 x2 s) := by
  unfold L_X7_hauls_67
  exact zwf_II (fun r hr x1 x2 t ht => wB_X7_hauls_67 σ0  r x1 x2 t hr ht) n x1 x2 s hs
theorem wB_X7_hauls_43 (σ0 : zg_S) (y0 : Int32) (s : zg_S) (hs : wr (W_X7_hauls) σ0 s) : zw (W_X7_hauls) σ0 (B_X7_hauls_43 y0 s) := by
  unfold B_X7_hauls_43
  refine zw_call (w_X7_payIf 1 s) (fun p k h => by unfold W_X7_payIf at h; unfold W_X7_hauls; omega) hs (fun r75 σ76 hσ76 => ?_)
  refine zw_call (w_X7_payIf y0 σ76) (fun p k h => by unfold W_X7_payIf at h; unfold W_X7_hauls; omega) hσ76 (fun r82 σ83 hσ83 => ?_)
  refine zw_ite ?_ ?_
  · exact zw_some hσ83
  · exact zw_some hσ83
theorem w_X7_hauls  (σ0 : zg_S) : zw (W_X7_hauls) σ0 (f_X7_hauls  σ0) := by
  unfold f_X7_hauls
  refine zw_ite ?_ ?_
  · exact zw_some wr.rf
  · refine zw_ite ?_ ?_
    · refine zw_call (w_X7_payIf (-1) σ0) (fun p k h => by unfold W_X7_payIf at h; unfold W_X7_hauls; omega) wr.rf (fun r101 σ102 hσ102 => ?_)
      refine zw_call (w_X7_payIf 0 σ102) (fun p k h => by unfold W_X7_payIf at h; unfold W_X7_hauls; omega) hσ102 (fun r110 σ111 hσ111 => ?_)
      refine zw_ite ?_ ?_
      · exact wB_X7_hauls_43 σ0 0 σ111  hσ111
      · exact wB_X7_hauls_43 σ0 (-1) σ111  hσ111
    · exact wL_X7_hauls_67 σ0 zfu (-1) 0 σ0  wr.rf
theorem w_X7_sets (a1 : Int32) (a2 : Int32) (a3 : Int32) (σ0 : zg_S) : zw (W_X7_sets a1 a2) σ0 (f_X7_sets a1 a2 a3 σ0) := by
  unfold f_X7_sets
  refine zw_in (fun z1 => ?_)
  refine zw_up (by unfold W_X7_sets; omega) wr.rf (fun σ4 hσ4 => ?_)
  exact zw_some hσ4
theorem w_X7_drawn  (σ0 : zg_S) : zw (W_X7_drawn) σ0 (f_X7_drawn  σ0) := by
  unfold f_X7_drawn
  refine zw_let (fun y1 => ?_)
  refine zw_up (by unfold W_X7_drawn; omega) wr.rf (fun σ4 hσ4 => ?_)
  exact zw_some hσ4
theorem wB_X7_goesOnBy_149 (σ0 : zg_S) (a1 : Int32) (s : zg_S) (hs : wr (W_X7_goesOnBy) σ0 s) : zw (W_X7_goesOnBy) σ0 (B_X7_goesOnBy_149 a1 s) := by
  unfold B_X7_goesOnBy_149
  refine zw_up (by unfold W_X7_goesOnBy; omega) hs (fun σ1 hσ1 => ?_)
  exact zw_some hσ1
theorem wB_X7_goesOnBy_147 (σ0 : zg_S) (a1 : Int32) (y0 : Int32) (y1 : Int32) (y2 : Int32) (s : zg_S) (hs : wr (W_X7_goesOnBy) σ0 s) : zw (W_X7_goesOnBy) σ0 (B_X7_goesOnBy_147 a1 y0 y1 y2 s) := by
  unfold B_X7_goesOnBy_147
  refine zw_in (fun z1 => ?_)
  refine zw_up (by unfold W_X7_goesOnBy; omega) hs (fun σ10 hσ10 => ?_)
  exact wB_X7_goesOnBy_149 σ0 a1 σ10  hσ10
theorem wB_X7_goesOnBy_82 (σ0 : zg_S) (a1 : Int32) (rec17_ : Int32 → zg_S → Option (Int32 × zg_S)) (x2 : Int32) (y0 : Int32) (y1 : Int32) (y2 : Int32) (s : zg_S) (hrec17_ : ∀ (z0 : Int32) (s : zg_S), wr (W_X7_goesOnBy) σ0 s → zw (W_X7_goesOnBy) σ0 (rec17_ z0 s)) (hs : wr (W_X7_goesOnBy) σ0 s) : zw (W_X7_goesOnBy) σ0 (B_X7_goesOnBy_82 a1 rec17_ x2 y0 y1 y2 s) := by
  unfold B_X7_goesOnBy_82
  refine zw_in (fun z1 => ?_)
  refine zw_up (by unfold W_X7_goesOnBy; omega) hs (fun σ19 hσ19 => ?_)
  exact hrec17_ (x2 + 1) σ19 hσ19
theorem wB_X7_goesOnBy_17 (σ0 : zg_S) (a1 : Int32) (rec17_ : Int32 → zg_S → Option (Int32 × zg_S)) (x2 : Int32) (s : zg_S) (hrec17_ : ∀ (z0 : Int32) (s : zg_S), wr (W_X7_goesOnBy) σ0 s → zw (W_X7_goesOnBy) σ0 (rec17_ z0 s)) (hs : wr (W_X7_goesOnBy) σ0 s) : zw (W_X7_goesOnBy) σ0 (B_X7_goesOnBy_17 a1 rec17_ x2 s) := by
  unfold B_X7_goesOnBy_17
  refine zw_ite ?_ ?_
  · refine zw_call (w_X7_drawn s) (fun p k h => by unfold W_X7_drawn at h; unfold W_X7_goesOnBy; omega) hs (fun r29 σ30 hσ30 => ?_)
    refine zw_ite ?_ ?_
    · exact wB_X7_goesOnBy_149 σ0 a1 σ30  hσ30
    · refine zw_call (w_X7_drawn σ30) (fun p k h => by unfold W_X7_drawn at h; unfold W_X7_goesOnBy; omega) hσ30 (fun r39 σ40 hσ40 => ?_)
      refine zw_let (fun y48 => ?_)
      refine zw_up (by unfold W_X7_goesOnBy; omega) hσ40 (fun σ51 hσ51 => ?_)
      refine zw_call (w_X7_holds σ51) (fun p k h => by unfold W_X7_holds at h; unfold W_X7_goesOnBy; omega) hσ51 (fun r57 σ58 hσ58 => ?_)
      refine zw_ite ?_ ?_
      · exact wB_X7_goesOnBy_147 σ0 a1 0 (σ58 1 5) 5 σ58  hσ58
      · exact wB_X7_goesOnBy_147 σ0 a1 1 (σ58 1 5) 5 σ58  hσ58
  · refine zw_call (w_X7_spoils x2 s) (fun p k h => by unfold W_X7_spoils at h; unfold W_X7_goesOnBy; omega) hs (fun r68 σ69 hσ69 => ?_)
    refine zw_up (by unfold W_X7_goesOnBy; omega) hσ69 (fun σ77 hσ77 => ?_)
    refine zw_call (w_X7_of x2 2 σ77) (fun p k h => False.elim h) hσ77 (fun r83 σ84 hσ84 => ?_)
    refine zw_call (w_X7_sets x2 2 (r83 - r68) σ84) (fun p k h => by unfold W_X7_sets at h; unfold W_X7_goesOnBy; omega) hσ84 (fun r90 σ91 hσ91 => ?_)
    refine zw_call (w_X7_isShaded x2 σ91) (fun p k h => False.elim h) hσ91 (fun r97 σ98 hσ98 => ?_)
    refine zw_ite ?_ ?_
    · exact wB_X7_goesOnBy_82 σ0 a1 rec17_ x2 0 (σ91 1 3) 3 σ98 hrec17_ hσ98
    · refine zw_call (w_X7_of x2 3 σ98) (fun p k h => False.elim h) hσ98 (fun r107 σ108 hσ108 => ?_)
      exact wB_X7_goesOnBy_82 σ0 a1 rec17_ x2 r107 (σ91 1 3) 3 σ108 hrec17_ hσ108
theorem wL_X7_goesOnBy_17 (σ0 : zg_S) (a1 : Int32) (n : Nat) (x2 : Int32) (s : zg_S) (hs : wr (W_X7_goesOnBy) σ0 s) : zw (W_X7_goesOnBy) σ0 (L_X7_goesOnBy_17 a1 n x2 s) := by
  unfold L_X7_goesOnBy_17
  exact zwf_I (fun r hr x2 t ht => wB_X7_goesOnBy_17 σ0 a1 r x2 t hr ht) n x2 s hs
theorem w_X7_goesOnBy (a1 : Int32) (σ0 : zg_S) : zw (W_X7_goesOnBy) σ0 (f_X7_goesOnBy a1 σ0) := by
  unfold f_X7_goesOnBy
  refine zw_up (by unfold W_X7_goesOnBy; omega) wr.rf (fun σ114 hσ114 => ?_)
  refine zw_call (w_X7_holds σ114) (fun p k h => by unfold W_X7_holds at h; unfold W_X7_goesOnBy; omega) hσ114 (fun r120 σ121 hσ121 => ?_)
  exact wL_X7_goesOnBy_17 σ0 a1 zfu 0 σ121  hσ121
theorem w_X7_goesOn  (σ0 : zg_S) : zw (W_X7_goesOn) σ0 (f_X7_goesOn  σ0) := by
  unfold f_X7_goesOn
  refine zw_call (w_X7_hauls σ0) (fun p k h => by unfold W_X7_hauls at h; unfold W_X7_goesOn; omega) wr.rf (fun r1 σ2 hσ2 => ?_)
  refine zw_call (w_X7_goesOnBy r1 σ2) (fun p k h => by unfold W_X7_goesOnBy at h; unfold W_X7_goesOn; omega) hσ2 (fun r8 σ9 hσ9 => ?_)
  exact zw_some hσ9
theorem wB_X7_goesOnMany_2 (σ0 : zg_S) (a1 : Int32) (rec2_ : Int32 → zg_S → Option (Int32 × zg_S)) (x2 : Int32) (s : zg_S) (hrec2_ : ∀ (z0 : Int32) (s : zg_S), wr (W_X7_goesOnMany) σ0 s → zw (W_X7_goesOnMany) σ0 (rec2_ z0 s)) (hs : wr (W_X7_goesOnMany) σ0 s) : zw (W_X7_goesOnMany) σ0 (B_X7_goesOnMany_2 a1 rec2_ x2 s) := by
  unfold B_X7_goesOnMany_2
  refine zw_ite ?_ ?_
  · exact zw_some hs
  · refine zw_call (w_X7_goesOn s) (fun p k h => by unfold W_X7_goesOn at h; unfold W_X7_goesOnMany; omega) hs (fun r4 σ5 hσ5 => ?_)
    exact hrec2_ (x2 + 1) σ5 hσ5
theorem wL_X7_goesOnMany_2 (σ0 : zg_S) (a1 : Int32) (n : Nat) (x2 : Int32) (s : zg_S) (hs : wr (W_X7_goesOnMany) σ0 s) : zw (W_X7_goesOnMany) σ0 (L_X7_goesOnMany_2 a1 n x2 s) := by
  unfold L_X7_goesOnMany_2
  exact zwf_I (fun r hr x2 t ht => wB_X7_goesOnMany_2 σ0 a1 r x2 t hr ht) n x2 s hs
theorem w_X7_goesOnMany (a1 : Int32) (σ0 : zg_S) : zw (W_X7_goesOnMany) σ0 (f_X7_goesOnMany a1 σ0) := by
  unfold f_X7_goesOnMany
  exact wL_X7_goesOnMany_2 σ0 a1 zfu 0 σ0  wr.rf
theorem wB_X7_laysBack_2 (σ0 : zg_S) (rec2_ : Int32 → zg_S → Option (Int32 × zg_S)) (x1 : Int32) (s : zg_S) (hrec2_ : ∀ (z0 : Int32) (s : zg_S), wr (W_X7_laysBack) σ0 s → zw (W_X7_laysBack) σ0 (rec2_ z0 s)) (hs : wr (W_X7_laysBack) σ0 s) : zw (W_X7_laysBack) σ0 (B_X7_laysBack_2 rec2_ x1 s) := by
  unfold B_X7_laysBack_2
  refine zw_ite ?_ ?_
  · exact zw_some hs
  · refine zw_in (fun z1 => ?_)
    refine zw_let (fun y7 => ?_)
    refine zw_in (fun z2 => ?_)
    refine zw_up (by unfold W_X7_laysBack; omega) hs (fun σ13 hσ13 => ?_)
    exact hrec2_ (x1 + 1) σ13 hσ13
theorem wL_X7_laysBack_2 (σ0 : zg_S)  (n : Nat) (x1 : Int32) (s : zg_S) (hs : wr (W_X7_laysBack) σ0 s) : zw (W_X7_laysBack) σ0 (L_X7_laysBack_2  n x1 s) := by
  unfold L_X7_laysBack_2
  exact zwf_I (fun r hr x1 t ht => wB_X7_laysBack_2 σ0  r x1 t hr ht) n x1 s hs
theorem w_X7_laysBack  (σ0 : zg_S) : zw (W_X7_laysBack) σ0 (f_X7_laysBack  σ0) := by
  unfold f_X7_laysBack
  exact wL_X7_laysBack_2 σ0 zfu 0 σ0  wr.rf
theorem wB_X7_behind_84 (σ0 : zg_S) (a1 : Int32) (a2 : Int32) (y0 : Int32) (s : zg_S) (hs : wr (W_X7_behind) σ0 s) : zw (W_X7_behind) σ0 (B_X7_behind_84 a1 a2 y0 s) := by
  unfold B_X7_behind_84
  refine zw_call (w_X7_laysBack s) (fun p k h => by unfold W_X7_laysBack at h; unfold W_X7_behind; omega) hs (fun r3 σ4 hσ4 => ?_)
  exact zw_some hσ4
theorem w_X7_behind (a1 : Int32) (a2 : Int32) (σ0 : zg_S) : zw (W_X7_behind) σ0 (f_X7_behind a1 a2 σ0) := by
  unfold f_X7_behind
  refine zw_call (w_X7_isIn (Int32.toInt64 a1) (Int32.toInt64 0) (Int32.toInt64 100) σ0) (fun p k h => False.elim h) wr.rf (fun r10 σ11 hσ11 => ?_)
  refine zw_ite ?_ ?_
  · exact zw_some hσ11
  · refine zw_call (w_X7_isIn (Int32.toInt64 a2) (Int32.toInt64 0) (Int32.toInt64 3) σ11) (fun p k h => False.elim h) hσ11 (fun r20 σ21 hσ21 => ?_)
    refine zw_ite ?_ ?_
    · exact zw_some hσ21
    · refine zw_call (w_X7_laysBy σ21) (fun p k h => by unfold W_X7_laysBy at h; unfold W_X7_behind; omega) hσ21 (fun r29 σ30 hσ30 => ?_)
      refine zw_call (w_X7_goesOnMany a1 σ30) (fun p k h => by unfold W_X7_goesOnMany at h; unfold W_X7_behind; omega) hσ30 (fun r36 σ37 hσ37 => ?_)
      refine zw_ite ?_ ?_
      · exact wB_X7_behind_84 σ0 a1 a2 (σ37 1 4) σ37  hσ37
      · refine zw_ite ?_ ?_
        · exact wB_X7_behind_84 σ0 a1 a2 (σ37 1 3) σ37  hσ37
        · refine zw_ite ?_ ?_
          · exact wB_X7_behind_84 σ0 a1 a2 (σ37 1 7) σ37  hσ37
          · exact wB_X7_behind_84 σ0 a1 a2 (σ37 1 5) σ37  hσ37
theorem wB_X7_best_149 (σ0 : zg_S) (a1 : Int32) (a2 : Int32) (rec59_ : Int32 → Int32 → Int32 → Int32 → zg_S → Option (Int32 × zg_S)) (x3 : Int32) (x4 : Int32) (x5 : Int32) (x6 : Int32) (s : zg_S) (hrec59_ : ∀ (z0 : Int32) (z1 : Int32) (z2 : Int32) (z3 : Int32) (s : zg_S), wr (W_X7_best) σ0 s → zw (W_X7_best) σ0 (rec59_ z0 z1 z2 z3 s)) (hs : wr (W_X7_best) σ0 s) : zw (W_X7_best) σ0 (B_X7_best_149 a1 a2 rec59_ x3 x4 x5 x6 s) := by
  unfold B_X7_best_149
  exact hrec59_ x3 x4 x5 (x6 + 1) s hs
theorem wB_X7_best_141 (σ0 : zg_S) (a1 : Int32) (a2 : Int32) (rec59_ : Int32 → Int32 → Int32 → Int32 → zg_S → Option (Int32 × zg_S)) (x3 : Int32) (x6 : Int32) (x7 : Int32) (s : zg_S) (hrec59_ : ∀ (z0 : Int32) (z1 : Int32) (z2 : Int32) (z3 : Int32) (s : zg_S), wr (W_X7_best) σ0 s → zw (W_X7_best) σ0 (rec59_ z0 z1 z2 z3 s)) (hs : wr (W_X7_best) σ0 s) : zw (W_X7_best) σ0 (B_X7_best_141 a1 a2 rec59_ x3 x6 x7 s) := by
  unfold B_X7_best_141
  exact wB_X7_best_149 σ0 a1 a2 rec59_ x3 x6 x7 x6 s hrec59_ hs
theorem wB_X7_best_105 (σ0 : zg_S) (a1 : Int32) (a2 : Int32) (rec70_ : Int32 → Int32 → Int32 → Int32 → Int32 → zg_S → Option (Int32 × zg_S)) (x3 : Int32) (x4 : Int32) (x5 : Int32) (x6 : Int32) (x7 : Int32) (y0 : Int32) (s : zg_S) (hrec70_ : ∀ (z0 : Int32) (z1 : Int32) (z2 : Int32) (z3 : Int32) (z4 : Int32) (s : zg_S), wr (W_X7_best) σ0 s → zw (W_X7_best) σ0 (rec70_ z0 z1 z2 z3 z4 s)) (hs : wr (W_X7_best) σ0 s) : zw (W_X7_best) σ0 (B_X7_best_105 a1 a2 rec70_ x3 x4 x5 x6 x7 y0 s) := by
  unfold B_X7_best_105
  refine zw_call (w_X7_goesOnBy y0 s) (fun p k h => by unfold W_X7_goesOnBy at h; unfold W_X7_best; omega) hs (fun r7 σ8 hσ8 => ?_)
  exact hrec70_ x3 x4 x5 x6 (x7 / 3) σ8 hσ8
theorem wB_X7_best_70 (σ0 : zg_S) (a1 : Int32) (a2 : Int32) (rec59_ : Int32 → Int32 → Int32 → Int32 → zg_S → Option (Int32 × zg_S)) (rec70_ : Int32 → Int32 → Int32 → Int32 → Int32 → zg_S → Option (Int32 × zg_S)) (x3 : Int32) (x4 : Int32) (x5 : Int32) (x6 : Int32) (x7 : Int32) (s : zg_S) (hrec59_ : ∀ (z0 : Int32) (z1 : Int32) (z2 : Int32) (z3 : Int32) (s : zg_S), wr (W_X7_best) σ0 s → zw (W_X7_best) σ0 (rec59_ z0 z1 z2 z3 s)) (hrec70_ : ∀ (z0 : Int32) (z1 : Int32) (z2 : Int32) (z3 : Int32) (z4 : Int32) (s : zg_S), wr (W_X7_best) σ0 s → zw (W_X7_best) σ0 (rec70_ z0 z1 z2 z3 z4 s)) (hs : wr (W_X7_best) σ0 s) : zw (W_X7_best) σ0 (B_X7_best_70 a1 a2 rec59_ rec70_ x3 x4 x5 x6 x7 s) := by
  unfold B_X7_best_70
  refine zw_ite ?_ ?_
  · refine zw_call (w_X7_laysBack s) (fun p k h => by unfold W_X7_laysBack at h; unfold W_X7_best; omega) hs (fun r20 σ21 hσ21 => ?_)
    refine zw_ite ?_ ?_
    · exact wB_X7_best_141 σ0 a1 a2 rec59_ x3 x6 (s 1 4) σ21 hrec59_ hσ21
    · refine zw_ite ?_ ?_
      · exact wB_X7_best_149 σ0 a1 a2 rec59_ x3 x4 x5 x6 σ21 hrec59_ hσ21
      · exact wB_X7_best_141 σ0 a1 a2 rec59_ x3 x6 (s 1 4) σ21 hrec59_ hσ21
  · refine zw_ite zw_none ?_
    refine zw_let (fun y36 => ?_)
    refine zw_ite ?_ ?_
    · exact wB_X7_best_105 σ0 a1 a2 rec70_ x3 x4 x5 x6 x7 0 s hrec70_ hs
    · refine zw_ite ?_ ?_
      · exact wB_X7_best_105 σ0 a1 a2 rec70_ x3 x4 x5 x6 x7 (-1) s hrec70_ hs
      · exact wB_X7_best_105 σ0 a1 a2 rec70_ x3 x4 x5 x6 x7 1 s hrec70_ hs
theorem wL_X7_best_70 (σ0 : zg_S) (a1 : Int32) (a2 : Int32) (rec59_ : Int32 → Int32 → Int32 → Int32 → zg_S → Option (Int32 × zg_S)) (n : Nat) (x3 : Int32) (x4 : Int32) (x5 : Int32) (x6 : Int32) (x7 : Int32) (s : zg_S) (hrec59_ : ∀ (z0 : Int32) (z1 : Int32) (z2 : Int32) (z3 : Int32) (s : zg_S), wr (W_X7_best) σ0 s → zw (W_X7_best) σ0 (rec59_ z0 z1 z2 z3 s)) (hs : wr (W_X7_best) σ0 s) : zw (W_X7_best) σ0 (L_X7_best_70 a1 a2 rec59_ n x3 x4 x5 x6 x7 s) := by
  unfold L_X7_best_70
  exact zwf_IIIII (fun r hr x3 x4 x5 x6 x7 t ht => wB_X7_best_70 σ0 a1 a2 rec59_ r x3 x4 x5 x6 x7 t hrec59_ hr ht) n x3 x4 x5 x6 x7 s hs
theorem wB_X7_best_59 (σ0 : zg_S) (a1 : Int32) (a2 : Int32) (rec59_ : Int32 → Int32 → Int32 → Int32 → zg_S → Option (Int32 × zg_S)) (x3 : Int32) (x4 : Int32) (x5 : Int32) (x6 : Int32) (s : zg_S) (hrec59_ : ∀ (z0 : Int32) (z1 : Int32) (z2 : Int32) (z3 : Int32) (s : zg_S), wr (W_X7_best) σ0 s → zw (W_X7_best) σ0 (rec59_ z0 z1 z2 z3 s)) (hs : wr (W_X7_best) σ0 s) : zw (W_X7_best) σ0 (B_X7_best_59 a1 a2 rec59_ x3 x4 x5 x6 s) := by
  unfold B_X7_best_59
  refine zw_ite ?_ ?_
  · refine zw_ite ?_ ?_
    · exact zw_some hs
    · exact zw_some hs
  · exact wL_X7_best_70 σ0 a1 a2 rec59_ zfu x3 x4 x5 x6 x3 s hrec59_ hs
theorem wL_X7_best_59 (σ0 : zg_S) (a1 : Int32) (a2 : Int32) (n : Nat) (x3 : Int32) (x4 : Int32) (x5 : Int32) (x6 : Int32) (s : zg_S) (hs : wr (W_X7_best) σ0 s) : zw (W_X7_best) σ0 (L_X7_best_59 a1 a2 n x3 x4 x5 x6 s) := by
  unfold L_X7_best_59
  exact zwf_IIII (fun r hr x3 x4 x5 x6 t ht => wB_X7_best_59 σ0 a1 a2 r x3 x4 x5 x6 t hr ht) n x3 x4 x5 x6 s hs
theorem wB_X7_best_30 (σ0 : zg_S) (a1 : Int32) (a2 : Int32) (rec30_ : Int32 → Int32 → zg_S → Option (Int32 × zg_S)) (x3 : Int32) (x4 : Int32) (s : zg_S) (hrec30_ : ∀ (z0 : Int32) (z1 : Int32) (s : zg_S), wr (W_X7_best) σ0 s → zw (W_X7_best) σ0 (rec30_ z0 z1 s)) (hs : wr (W_X7_best) σ0 s) : zw (W_X7_best) σ0 (B_X7_best_30 a1 a2 rec30_ x3 x4 s) := by
  unfold B_X7_best_30
  refine zw_ite ?_ ?_
  · refine zw_call (w_X7_laysBy s) (fun p k h => by unfold W_X7_laysBy at h; unfold W_X7_best; omega) hs (fun r57 σ58 hσ58 => ?_)
    exact wL_X7_best_59 σ0 a1 a2 zfu x3 (-1) 0 0 σ58  hσ58
  · exact hrec30_ (x3 * 3) (x4 + 1) s hs
theorem wL_X7_best_30 (σ0 : zg_S) (a1 : Int32) (a2 : Int32) (n : Nat) (x3 : Int32) (x4 : Int32) (s : zg_S) (hs : wr (W_X7_best) σ0 s) : zw (W_X7_best) σ0 (L_X7_best_30 a1 a2 n x3 x4 s) := by
  unfold L_X7_best_30
  exact zwf_II (fun r hr x3 x4 t ht => wB_X7_best_30 σ0 a1 a2 r x3 x4 t hr ht) n x3 x4 s hs
theorem w_X7_best (a1 : Int32) (a2 : Int32) (σ0 : zg_S) : zw (W_X7_best) σ0 (f_X7_best a1 a2 σ0) := by
  unfold f_X7_best
  refine zw_call (w_X7_isIn (Int32.toInt64 a1) (Int32.toInt64 1) (Int32.toInt64 5) σ0) (fun p k h => False.elim h) wr.rf (fun r75 σ76 hσ76 => ?_)
  refine zw_ite ?_ ?_
  · exact zw_some hσ76
  · refine zw_call (w_X7_isIn (Int32.toInt64 a2) (Int32.toInt64 0) (Int32.toInt64 1) σ76) (fun p k h => False.elim h) hσ76 (fun r85 σ86 hσ86 => ?_)
    refine zw_ite ?_ ?_
    · exact zw_some hσ86
    · exact wL_X7_best_30 σ0 a1 a2 zfu 1 1 σ86  hσ86
theorem wB_X7_book_63 (σ0 : zg_S) (a1 : Int32) (rec63_ : Int32 → Int32 → zg_S → Option (Int32 × zg_S)) (x2 : Int32) (x3 : Int32) (s : zg_S) (hrec63_ : ∀ (z0 : Int32) (z1 : Int32) (s : zg_S), wr (W_X7_book) σ0 s → zw (W_X7_book) σ0 (rec63_ z0 z1 s)) (hs : wr (W_X7_book) σ0 s) : zw (W_X7_book) σ0 (B_X7_book_63 a1 rec63_ x2 x3 s) := by
  unfold B_X7_book_63
  refine zw_ite ?_ ?_
  · exact zw_some hs
  · refine zw_call (w_X7_of x3 2 s) (fun p k h => False.elim h) hs (fun r4 σ5 hσ5 => ?_)
    exact hrec63_ (x2 + r4) (x3 + 1) σ5 hσ5
theorem wL_X7_book_63 (σ0 : zg_S) (a1 : Int32) (n : Nat) (x2 : Int32) (x3 : Int32) (s : zg_S) (hs : wr (W_X7_book) σ0 s) : zw (W_X7_book) σ0 (L_X7_book_63 a1 n x2 x3 s) := by
  unfold L_X7_book_63
  exact zwf_II (fun r hr x2 x3 t ht => wB_X7_book_63 σ0 a1 r x2 x3 t hr ht) n x2 x3 s hs
theorem w_X7_book (a1 : Int32) (σ0 : zg_S) : zw (W_X7_book) σ0 (f_X7_book a1 σ0) := by
  unfold f_X7_book
  refine zw_ite ?_ ?_
  · exact zw_some wr.rf
  · refine zw_ite ?_ ?_
    · exact zw_some wr.rf
    · refine zw_ite ?_ ?_
      · exact zw_some wr.rf
      · refine zw_ite ?_ ?_
        · exact wL_X7_book_63 σ0 a1 zfu 0 0 σ0  wr.rf
        · exact zw_some wr.rf
theorem w_X7_step (a1 : Int32) (a2 : Int32) (σ0 : zg_S) : zw (W_X7_step) σ0 (f_X7_step a1 a2 σ0) := by
  unfold f_X7_step
  refine zw_in (fun z1 => ?_)
  refine zw_up (by unfold W_X7_step; omega) wr.rf (fun σ4 hσ4 => ?_)
  refine zw_in (fun z2 => ?_)
  refine zw_up (by unfold W_X7_step; omega) hσ4 (fun σ13 hσ13 => ?_)
  refine zw_up (by unfold W_X7_step; omega) hσ13 (fun σ19 hσ19 => ?_)
  exact zw_some hσ19
theorem w_X7_isLetter (a1 : Int32) (σ0 : zg_S) : zw (W_X7_isLetter) σ0 (f_X7_isLetter a1 σ0) := by
  unfold f_X7_isLetter
  refine zw_ite ?_ ?_
  · exact zw_some wr.rf
  · refine zw_in (fun z1 => ?_)
    refine zw_call (w_X7_isIn (Int32.toInt64 (σ0 13 (Int32.toNatClampNeg a1))) (Int32.toInt64 97) (Int32.toInt64 122) σ0) (fun p k h => False.elim h) wr.rf (fun r7 σ8 hσ8 => ?_)
    refine zw_ite ?_ ?_
    · exact zw_some hσ8
    · exact zw_some hσ8
theorem w_X7_isDigit (a1 : Int32) (σ0 : zg_S) : zw (W_X7_isDigit) σ0 (f_X7_isDigit a1 σ0) := by
  unfold f_X7_isDigit
  refine zw_ite ?_ ?_
  · exact zw_some wr.rf
  · refine zw_in (fun z1 => ?_)
    refine zw_call (w_X7_isIn (Int32.toInt64 (σ0 13 (Int32.toNatClampNeg a1))) (Int32.toInt64 48) (Int32.toInt64 57) σ0) (fun p k h => False.elim h) wr.rf (fun r7 σ8 hσ8 => ?_)
    refine zw_ite ?_ ?_
    · exact zw_some hσ8
    · exact zw_some hσ8
theorem wB_X7_nextToken_300 (σ0 : zg_S)  (s : zg_S) (hs : wr (W_X7_nextToken) σ0 s) : zw (W_X7_nextToken) σ0 (B_X7_nextToken_300  s) := by
  unfold B_X7_nextToken_300
  refine zw_up (by unfold W_X7_nextToken; omega) hs (fun σ1 hσ1 => ?_)
  exact zw_some hσ1
theorem wB_X7_nextToken_266 (σ0 : zg_S) (rec214_ : Int32 → zg_S → Option (Int32 × zg_S)) (x1 : Int32) (y0 : Int32) (s : zg_S) (hrec214_ : ∀ (z0 : Int32) (s : zg_S), wr (W_X7_nextToken) σ0 s → zw (W_X7_nextToken) σ0 (rec214_ z0 s)) (hs : wr (W_X7_nextToken) σ0 s) : zw (W_X7_nextToken) σ0 (B_X7_nextToken_266 rec214_ x1 y0 s) := by
  unfold B_X7_nextToken_266
  refine zw_up (by unfold W_X7_nextToken; omega) hs (fun σ7 hσ7 => ?_)
  refine zw_up (by unfold W_X7_nextToken; omega) hσ7 (fun σ13 hσ13 => ?_)
  exact hrec214_ x1 σ13 hσ13
theorem wB_X7_nextToken_214 (σ0 : zg_S) (rec214_ : Int32 → zg_S → Option (Int32 × zg_S)) (x1 : Int32) (s : zg_S) (hrec214_ : ∀ (z0 : Int32) (s : zg_S), wr (W_X7_nextToken) σ0 s → zw (W_X7_nextToken) σ0 (rec214_ z0 s)) (hs : wr (W_X7_nextToken) σ0 s) : zw (W_X7_nextToken) σ0 (B_X7_nextToken_214 rec214_ x1 s) := by
  unfold B_X7_nextToken_214
  refine zw_call (w_X7_isDigit (s 0 16) s) (fun p k h => False.elim h) hs (fun r19 σ20 hσ20 => ?_)
  refine zw_ite ?_ ?_
  · refine zw_ite ?_ ?_
    · refine zw_ite ?_ ?_
      · refine zw_up (by unfold W_X7_nextToken; omega) hσ20 (fun σ33 hσ33 => ?_)
        exact zw_some hσ33
      · exact wB_X7_nextToken_300 σ0  σ20  hσ20
    · exact wB_X7_nextToken_300 σ0  σ20  hσ20
  · refine zw_ite ?_ ?_
    · exact wB_X7_nextToken_266 σ0 rec214_ x1 (σ20 0 18) σ20 hrec214_ hσ20
    · refine zw_in (fun z1 => ?_)
      exact wB_X7_nextToken_266 σ0 rec214_ x1 (((10 * (σ20 0 18)) + (σ20 13 (Int32.toNatClampNeg (σ20 0 16)))) - 48) σ20 hrec214_ hσ20
theorem wL_X7_nextToken_214 (σ0 : zg_S)  (n : Nat) (x1 : Int32) (s : zg_S) (hs : wr (W_X7_nextToken) σ0 s) : zw (W_X7_nextToken) σ0 (L_X7_nextToken_214  n x1 s) := by
  unfold L_X7_nextToken_214
  exact zwf_I (fun r hr x1 t ht => wB_X7_nextToken_214 σ0  r x1 t hr ht) n x1 s hs
theorem wB_X7_nextToken_162 (σ0 : zg_S) (y0 : Int32) (s : zg_S) (hs : wr (W_X7_nextToken) σ0 s) : zw (W_X7_nextToken) σ0 (B_X7_nextToken_162 y0 s) := by
  unfold B_X7_nextToken_162
  refine zw_up (by unfold W_X7_nextToken; omega) hs (fun σ47 hσ47 => ?_)
  refine zw_ite ?_ ?_
  · refine zw_in (fun z1 => ?_)
    refine zw_let (fun y65 => ?_)
    refine zw_up (by unfold W_X7_nextToken; omega) hσ47 (fun σ68 hσ68 => ?_)
    exact zw_some hσ68
  · refine zw_up (by unfold W_X7_nextToken; omega) hσ47 (fun σ55 hσ55 => ?_)
    exact zw_some hσ55
theorem wB_X7_nextToken_128 (σ0 : zg_S) (rec128_ : Int32 → zg_S → Option (Int32 × zg_S)) (x1 : Int32) (s : zg_S) (hrec128_ : ∀ (z0 : Int32) (s : zg_S), wr (W_X7_nextToken) σ0 s → zw (W_X7_nextToken) σ0 (rec128_ z0 s)) (hs : wr (W_X7_nextToken) σ0 s) : zw (W_X7_nextToken) σ0 (B_X7_nextToken_128 rec128_ x1 s) := by
  unfold B_X7_nextToken_128
  refine zw_call (w_X7_isLetter (s 0 16) s) (fun p k h => False.elim h) hs (fun r74 σ75 hσ75 => ?_)
  refine zw_ite ?_ ?_
  · refine zw_ite ?_ ?_
    · exact wB_X7_nextToken_162 σ0 1 σ75  hσ75
    · exact wB_X7_nextToken_162 σ0 4 σ75  hσ75
  · refine zw_up (by unfold W_X7_nextToken; omega) hσ75 (fun σ87 hσ87 => ?_)
    exact hrec128_ x1 σ87 hσ87
theorem wL_X7_nextToken_128 (σ0 : zg_S)  (n : Nat) (x1 : Int32) (s : zg_S) (hs : wr (W_X7_nextToken) σ0 s) : zw (W_X7_nextToken) σ0 (L_X7_nextToken_128  n x1 s) := by
  unfold L_X7_nextToken_128
  exact zwf_I (fun r hr x1 t ht => wB_X7_nextToken_128 σ0  r x1 t hr ht) n x1 s hs
theorem wB_X7_nextToken_89 (σ0 : zg_S) (y0 : Int32) (s : zg_S) (hs : wr (W_X7_nextToken) σ0 s) : zw (W_X7_nextToken) σ0 (B_X7_nextToken_89 y0 s) := by
  unfold B_X7_nextToken_89
  refine zw_up (by unfold W_X7_nextToken; omega) hs (fun σ95 hσ95 => ?_)
  refine zw_ite ?_ ?_
  · refine zw_up (by unfold W_X7_nextToken; omega) hσ95 (fun σ154 hσ154 => ?_)
    exact zw_some hσ154
  · refine zw_call (w_X7_isLetter (σ95 0 15) σ95) (fun p k h => False.elim h) hσ95 (fun r103 σ104 hσ104 => ?_)
    refine zw_ite ?_ ?_
    · refine zw_call (w_X7_isDigit (σ104 0 15) σ104) (fun p k h => False.elim h) hσ104 (fun r112 σ113 hσ113 => ?_)
      refine zw_ite ?_ ?_
      · refine zw_up (by unfold W_X7_nextToken; omega) hσ113 (fun σ121 hσ121 => ?_)
        refine zw_in (fun z1 => ?_)
        refine zw_let (fun y130 => ?_)
        refine zw_up (by unfold W_X7_nextToken; omega) hσ121 (fun σ133 hσ133 => ?_)
        refine zw_up (by unfold W_X7_nextToken; omega) hσ133 (fun σ139 hσ139 => ?_)
        exact zw_some hσ139
      · refine zw_up (by unfold W_X7_nextToken; omega) hσ113 (fun σ146 hσ146 => ?_)
        exact wL_X7_nextToken_214 σ0 zfu y0 σ146  hσ146
    · exact wL_X7_nextToken_128 σ0 zfu y0 σ104  hσ104
theorem wB_X7_nextToken_88 (σ0 : zg_S)  (s : zg_S) (hs : wr (W_X7_nextToken) σ0 s) : zw (W_X7_nextToken) σ0 (B_X7_nextToken_88  s) := by
  unfold B_X7_nextToken_88
  exact wB_X7_nextToken_89 σ0 0 s  hs
theorem wB_X7_nextToken_72 (σ0 : zg_S) (x1 : Int32) (x2 : Int32) (s : zg_S) (hs : wr (W_X7_nextToken) σ0 s) : zw (W_X7_nextToken) σ0 (B_X7_nextToken_72 x1 x2 s) := by
  unfold B_X7_nextToken_72
  refine zw_ite ?_ ?_
  · exact wB_X7_nextToken_88 σ0  s  hs
  · refine zw_ite ?_ ?_
    · exact wB_X7_nextToken_89 σ0 1 s  hs
    · exact wB_X7_nextToken_88 σ0  s  hs
theorem wB_X7_nextToken_34 (σ0 : zg_S) (rec34_ : Int32 → Int32 → zg_S → Option (Int32 × zg_S)) (x1 : Int32) (x2 : Int32) (s : zg_S) (hrec34_ : ∀ (z0 : Int32) (z1 : Int32) (s : zg_S), wr (W_X7_nextToken) σ0 s → zw (W_X7_nextToken) σ0 (rec34_ z0 z1 s)) (hs : wr (W_X7_nextToken) σ0 s) : zw (W_X7_nextToken) σ0 (B_X7_nextToken_34 rec34_ x1 x2 s) := by
  unfold B_X7_nextToken_34
  refine zw_ite ?_ ?_
  · exact wB_X7_nextToken_72 σ0 x1 x2 s  hs
  · refine zw_in (fun z1 => ?_)
    refine zw_ite ?_ ?_
    · refine zw_up (by unfold W_X7_nextToken; omega) hs (fun σ175 hσ175 => ?_)
      exact hrec34_ x1 x2 σ175 hσ175
    · exact wB_X7_nextToken_72 σ0 x1 x2 s  hs
theorem wL_X7_nextToken_34 (σ0 : zg_S)  (n : Nat) (x1 : Int32) (x2 : Int32) (s : zg_S) (hs : wr (W_X7_nextToken) σ0 s) : zw (W_X7_nextToken) σ0 (L_X7_nextToken_34  n x1 x2 s) := by
  unfold L_X7_nextToken_34
  exact zwf_II (fun r hr x1 x2 t ht => wB_X7_nextToken_34 σ0  r x1 x2 t hr ht) n x1 x2 s hs
theorem wB_X7_nextToken_28 (σ0 : zg_S) (y0 : Int32) (s : zg_S) (hs : wr (W_X7_nextToken) σ0 s) : zw (W_X7_nextToken) σ0 (B_X7_nextToken_28 y0 s) := by
  unfold B_X7_nextToken_28
  exact wL_X7_nextToken_34 σ0 zfu y0 (s 0 16) s  hs
theorem wB_X7_nextToken_27 (σ0 : zg_S)  (s : zg_S) (hs : wr (W_X7_nextToken) σ0 s) : zw (W_X7_nextToken) σ0 (B_X7_nextToken_27  s) := by
  unfold B_X7_nextToken_27
  exact wB_X7_nextToken_28 σ0 0 s  hs
theorem wB_X7_nextToken_23 (σ0 : zg_S)  (s : zg_S) (hs : wr (W_X7_nextToken) σ0 s) : zw (W_X7_nextToken) σ0 (B_X7_nextToken_23  s) := by
  unfold B_X7_nextToken_23
  exact wB_X7_nextToken_28 σ0 1 s  hs
theorem w_X7_nextToken  (σ0 : zg_S) : zw (W_X7_nextToken) σ0 (f_X7_nextToken  σ0) := by
  unfold f_X7_nextToken
  refine zw_ite ?_ ?_
  · exact wB_X7_nextToken_27 σ0  σ0  wr.rf
  · refine zw_ite ?_ ?_
    · exact wB_X7_nextToken_23 σ0  σ0  wr.rf
    · refine zw_ite ?_ ?_
      · exact wB_X7_nextToken_23 σ0  σ0  wr.rf
      · exact wB_X7_nextToken_27 σ0  σ0  wr.rf
theorem w_X7_isName (a0 : Int32) (a1 : Int32) (σ0 : zg_S) : zw (W_X7_isName) σ0 (f_X7_isName a0 a1 σ0) := by
  unfold f_X7_isName
  refine zw_ite ?_ ?_
  · refine zw_ite ?_ ?_
    · exact zw_some wr.rf
    · refine zw_ite ?_ ?_
      · exact zw_some wr.rf
      · refine zw_ite ?_ ?_
        · exact zw_some wr.rf
        · exact zw_some wr.rf
  · refine zw_ite ?_ ?_
    · refine zw_ite ?_ ?_
      · exact zw_some wr.rf
      · refine zw_ite ?_ ?_
        · exact zw_some wr.rf
        · exact zw_some wr.rf
    · refine zw_ite ?_ ?_
      · exact zw_some wr.rf
      · refine zw_ite ?_ ?_
        · exact zw_some wr.rf
        · exact zw_some wr.rf
theorem w_X7_isSign (a1 : Int32) (σ0 : zg_S) : zw (W_X7_isSign) σ0 (f_X7_isSign a1 σ0) := by
  unfold f_X7_isSign
  refine zw_ite ?_ ?_
  · refine zw_ite ?_ ?_
    · exact zw_some wr.rf
    · exact zw_some wr.rf
  · exact zw_some wr.rf
end
section
theorem wB_X7_either_10 (σ0 : zg_S) (rec : Nat → Int32 → zg_S → Option (Int32 × zg_S)) (a1 : Int32) (rec10_ : zg_S → Option (Int32 × zg_S)) (s : zg_S) (hrec : ∀ (z0 : Nat) (z1 : Int32) (s : zg_S), wr (W_G_mp) σ0 s → zw (W_G_mp) σ0 (rec z0 z1 s)) (hrec10_ : ∀  (s : zg_S), wr (W_G_mp) σ0 s → zw (W_G_mp) σ0 (rec10_  s)) (hs : wr (W_G_mp) σ0 s) : zw (W_G_mp) σ0 (B_X7_either_10 rec a1 rec10_ s) := by
  unfold B_X7_either_10
  refine zw_call (w_X7_isSign 124 s) (fun p k h => False.elim h) hs (fun r1 σ2 hσ2 => ?_)
  refine zw_ite ?_ ?_
  · exact zw_some hσ2
  · refine zw_call (w_X7_nextToken σ2) (fun p k h => by unfold W_X7_nextToken at h; unfold W_G_mp; omega) hσ2 (fun r11 σ12 hσ12 => ?_)
    refine zw_rec (hrec 1 a1 σ12 hσ12) (fun r18 σ19 hσ19 => ?_)
    refine zw_ite ?_ ?_
    · exact zw_some hσ19
    · refine zw_call (w_X7_step 2 124 σ19) (fun p k h => by unfold W_X7_step at h; unfold W_G_mp; omega) hσ19 (fun r27 σ28 hσ28 => ?_)
      exact hrec10_ σ28 hσ28
theorem wL_X7_either_10 (σ0 : zg_S) (rec : Nat → Int32 → zg_S → Option (Int32 × zg_S)) (a1 : Int32) (n : Nat)  (s : zg_S) (hrec : ∀ (z0 : Nat) (z1 : Int32) (s : zg_S), wr (W_G_mp) σ0 s → zw (W_G_mp) σ0 (rec z0 z1 s)) (hs : wr (W_G_mp) σ0 s) : zw (W_G_mp) σ0 (L_X7_either_10 rec a1 n  s) := by
  unfold L_X7_either_10
  exact zwf_0 (fun r hr t ht => wB_X7_either_10 σ0 rec a1 r  t hrec hr ht) n  s hs
theorem w_X7_either (σ0 : zg_S) (rec : Nat → Int32 → zg_S → Option (Int32 × zg_S)) (a1 : Int32) (s : zg_S) (hrec : ∀ (z0 : Nat) (z1 : Int32) (s : zg_S), wr (W_G_mp) σ0 s → zw (W_G_mp) σ0 (rec z0 z1 s)) (hs : wr (W_G_mp) σ0 s) : zw (W_G_mp) σ0 (f_X7_either rec a1 s) := by
  unfold f_X7_either
  refine zw_rec (hrec 1 a1 s hs) (fun r35 σ36 hσ36 => ?_)
  refine zw_ite ?_ ?_
  · exact zw_some hσ36
  · exact wL_X7_either_10 σ0 rec a1 zfu σ36 hrec hσ36
theorem wB_X7_both_10 (σ0 : zg_S) (rec : Nat → Int32 → zg_S → Option (Int32 × zg_S)) (a1 : Int32) (rec10_ : zg_S → Option (Int32 × zg_S)) (s : zg_S) (hrec : ∀ (z0 : Nat) (z1 : Int32) (s : zg_S), wr (W_G_mp) σ0 s → zw (W_G_mp) σ0 (rec z0 z1 s)) (hrec10_ : ∀  (s : zg_S), wr (W_G_mp) σ0 s → zw (W_G_mp) σ0 (rec10_  s)) (hs : wr (W_G_mp) σ0 s) : zw (W_G_mp) σ0 (B_X7_both_10 rec a1 rec10_ s) := by
  unfold B_X7_both_10
  refine zw_call (w_X7_isSign 38 s) (fun p k h => False.elim h) hs (fun r1 σ2 hσ2 => ?_)
  refine zw_ite ?_ ?_
  · exact zw_some hσ2
  · refine zw_call (w_X7_nextToken σ2) (fun p k h => by unfold W_X7_nextToken at h; unfold W_G_mp; omega) hσ2 (fun r11 σ12 hσ12 => ?_)
    refine zw_rec (hrec 2 a1 σ12 hσ12) (fun r18 σ19 hσ19 => ?_)
    refine zw_ite ?_ ?_
    · exact zw_some hσ19
    · refine zw_call (w_X7_step 2 38 σ19) (fun p k h => by unfold W_X7_step at h; unfold W_G_mp; omega) hσ19 (fun r27 σ28 hσ28 => ?_)
      exact hrec10_ σ28 hσ28
theorem wL_X7_both_10 (σ0 : zg_S) (rec : Nat → Int32 → zg_S → Option (Int32 × zg_S)) (a1 : Int32) (n : Nat)  (s : zg_S) (hrec : ∀ (z0 : Nat) (z1 : Int32) (s : zg_S), wr (W_G_mp) σ0 s → zw (W_G_mp) σ0 (rec z0 z1 s)) (hs : wr (W_G_mp) σ0 s) : zw (W_G_mp) σ0 (L_X7_both_10 rec a1 n  s) := by
  unfold L_X7_both_10
  exact zwf_0 (fun r hr t ht => wB_X7_both_10 σ0 rec a1 r  t hrec hr ht) n  s hs
theorem w_X7_both (σ0 : zg_S) (rec : Nat → Int32 → zg_S → Option (Int32 × zg_S)) (a1 : Int32) (s : zg_S) (hrec : ∀ (z0 : Nat) (z1 : Int32) (s : zg_S), wr (W_G_mp) σ0 s → zw (W_G_mp) σ0 (rec z0 z1 s)) (hs : wr (W_G_mp) σ0 s) : zw (W_G_mp) σ0 (f_X7_both rec a1 s) := by
  unfold f_X7_both
  refine zw_rec (hrec 2 a1 s hs) (fun r35 σ36 hσ36 => ?_)
  refine zw_ite ?_ ?_
  · exact zw_some hσ36
  · exact wL_X7_both_10 σ0 rec a1 zfu σ36 hrec hσ36
theorem wB_X7_test_37 (σ0 : zg_S) (rec : Nat → Int32 → zg_S → Option (Int32 × zg_S)) (a1 : Int32) (s : zg_S) (hrec : ∀ (z0 : Nat) (z1 : Int32) (s : zg_S), wr (W_G_mp) σ0 s → zw (W_G_mp) σ0 (rec z0 z1 s)) (hs : wr (W_G_mp) σ0 s) : zw (W_G_mp) σ0 (B_X7_test_37 rec a1 s) := by
  unfold B_X7_test_37
  refine zw_call (w_X7_nextToken s) (fun p k h => by unfold W_X7_nextToken at h; unfold W_G_mp; omega) hs (fun r3 σ4 hσ4 => ?_)
  refine zw_rec (hrec 3 a1 σ4 hσ4) (fun r10 σ11 hσ11 => ?_)
  refine zw_ite ?_ ?_
  · exact zw_some hσ11
  · refine zw_call (w_X7_step 2 (s 0 19) σ11) (fun p k h => by unfold W_X7_step at h; unfold W_G_mp; omega) hσ11 (fun r19 σ20 hσ20 => ?_)
    exact zw_some hσ20
theorem w_X7_test (σ0 : zg_S) (rec : Nat → Int32 → zg_S → Option (Int32 × zg_S)) (a1 : Int32) (s : zg_S) (hrec : ∀ (z0 : Nat) (z1 : Int32) (s : zg_S), wr (W_G_mp) σ0 s → zw (W_G_mp) σ0 (rec z0 z1 s)) (hs : wr (W_G_mp) σ0 s) : zw (W_G_mp) σ0 (f_X7_test rec a1 s) := by
  unfold f_X7_test
  refine zw_rec (hrec 3 a1 s hs) (fun r27 σ28 hσ28 => ?_)
  refine zw_ite ?_ ?_
  · exact zw_some hσ28
  · refine zw_call (w_X7_isSign 60 σ28) (fun p k h => False.elim h) hσ28 (fun r36 σ37 hσ37 => ?_)
    refine zw_ite ?_ ?_
    · refine zw_call (w_X7_isSign 61 σ37) (fun p k h => False.elim h) hσ37 (fun r46 σ47 hσ47 => ?_)
      refine zw_ite ?_ ?_
      · refine zw_call (w_X7_isSign 62 σ47) (fun p k h => False.elim h) hσ47 (fun r56 σ57 hσ57 => ?_)
        refine zw_ite ?_ ?_
        · exact zw_some hσ57
        · exact wB_X7_test_37 σ0 rec a1 σ57 hrec hσ57
      · exact wB_X7_test_37 σ0 rec a1 σ47 hrec hσ47
    · exact wB_X7_test_37 σ0 rec a1 σ37 hrec hσ37
theorem wB_X7_sum_28 (σ0 : zg_S) (rec : Nat → Int32 → zg_S → Option (Int32 × zg_S)) (a1 : Int32) (rec10_ : zg_S → Option (Int32 × zg_S)) (s : zg_S) (hrec : ∀ (z0 : Nat) (z1 : Int32) (s : zg_S), wr (W_G_mp) σ0 s → zw (W_G_mp) σ0 (rec z0 z1 s)) (hrec10_ : ∀  (s : zg_S), wr (W_G_mp) σ0 s → zw (W_G_mp) σ0 (rec10_  s)) (hs : wr (W_G_mp) σ0 s) : zw (W_G_mp) σ0 (B_X7_sum_28 rec a1 rec10_ s) := by
  unfold B_X7_sum_28
  refine zw_call (w_X7_nextToken s) (fun p k h => by unfold W_X7_nextToken at h; unfold W_G_mp; omega) hs (fun r3 σ4 hσ4 => ?_)
  refine zw_rec (hrec 4 a1 σ4 hσ4) (fun r10 σ11 hσ11 => ?_)
  refine zw_ite ?_ ?_
  · exact zw_some hσ11
  · refine zw_call (w_X7_step 2 (s 0 19) σ11) (fun p k h => by unfold W_X7_step at h; unfold W_G_mp; omega) hσ11 (fun r19 σ20 hσ20 => ?_)
    exact hrec10_ σ20 hσ20
theorem wB_X7_sum_10 (σ0 : zg_S) (rec : Nat → Int32 → zg_S → Option (Int32 × zg_S)) (a1 : Int32) (rec10_ : zg_S → Option (Int32 × zg_S)) (s : zg_S) (hrec : ∀ (z0 : Nat) (z1 : Int32) (s : zg_S), wr (W_G_mp) σ0 s → zw (W_G_mp) σ0 (rec z0 z1 s)) (hrec10_ : ∀  (s : zg_S), wr (W_G_mp) σ0 s → zw (W_G_mp) σ0 (rec10_  s)) (hs : wr (W_G_mp) σ0 s) : zw (W_G_mp) σ0 (B_X7_sum_10 rec a1 rec10_ s) := by
  unfold B_X7_sum_10
  refine zw_call (w_X7_isSign 43 s) (fun p k h => False.elim h) hs (fun r27 σ28 hσ28 => ?_)
  refine zw_ite ?_ ?_
  · refine zw_call (w_X7_isSign 45 σ28) (fun p k h => False.elim h) hσ28 (fun r37 σ38 hσ38 => ?_)
    refine zw_ite ?_ ?_
    · exact zw_some hσ38
    · exact wB_X7_sum_28 σ0 rec a1 rec10_ σ38 hrec hrec10_ hσ38
  · exact wB_X7_sum_28 σ0 rec a1 rec10_ σ28 hrec hrec10_ hσ28
theorem wL_X7_sum_10 (σ0 : zg_S) (rec : Nat → Int32 → zg_S → Option (Int32 × zg_S)) (a1 : Int32) (n : Nat)  (s : zg_S) (hrec : ∀ (z0 : Nat) (z1 : Int32) (s : zg_S), wr (W_G_mp) σ0 s → zw (W_G_mp) σ0 (rec z0 z1 s)) (hs : wr (W_G_mp) σ0 s) : zw (W_G_mp) σ0 (L_X7_sum_10 rec a1 n  s) := by
  unfold L_X7_sum_10
  exact zwf_0 (fun r hr t ht => wB_X7_sum_10 σ0 rec a1 r  t hrec hr ht) n  s hs
theorem w_X7_sum (σ0 : zg_S) (rec : Nat → Int32 → zg_S → Option (Int32 × zg_S)) (a1 : Int32) (s : zg_S) (hrec : ∀ (z0 : Nat) (z1 : Int32) (s : zg_S), wr (W_G_mp) σ0 s → zw (W_G_mp) σ0 (rec z0 z1 s)) (hs : wr (W_G_mp) σ0 s) : zw (W_G_mp) σ0 (f_X7_sum rec a1 s) := by
  unfold f_X7_sum
  refine zw_rec (hrec 4 a1 s hs) (fun r47 σ48 hσ48 => ?_)
  refine zw_ite ?_ ?_
  · exact zw_some hσ48
  · exact wL_X7_sum_10 σ0 rec a1 zfu σ48 hrec hσ48
theorem wB_X7_term_28 (σ0 : zg_S) (rec : Nat → Int32 → zg_S → Option (Int32 × zg_S)) (a1 : Int32) (rec10_ : zg_S → Option (Int32 × zg_S)) (s : zg_S) (hrec : ∀ (z0 : Nat) (z1 : Int32) (s : zg_S), wr (W_G_mp) σ0 s → zw (W_G_mp) σ0 (rec z0 z1 s)) (hrec10_ : ∀  (s : zg_S), wr (W_G_mp) σ0 s → zw (W_G_mp) σ0 (rec10_  s)) (hs : wr (W_G_mp) σ0 s) : zw (W_G_mp) σ0 (B_X7_term_28 rec a1 rec10_ s) := by
  unfold B_X7_term_28
  refine zw_call (w_X7_nextToken s) (fun p k h => by unfold W_X7_nextToken at h; unfold W_G_mp; omega) hs (fun r3 σ4 hσ4 => ?_)
  refine zw_rec (hrec 5 a1 σ4 hσ4) (fun r10 σ11 hσ11 => ?_)
  refine zw_ite ?_ ?_
  · exact zw_some hσ11
  · refine zw_call (w_X7_step 2 (s 0 19) σ11) (fun p k h => by unfold W_X7_step at h; unfold W_G_mp; omega) hσ11 (fun r19 σ20 hσ20 => ?_)
    exact hrec10_ σ20 hσ20
theorem wB_X7_term_10 (σ0 : zg_S) (rec : Nat → Int32 → zg_S → Option (Int32 × zg_S)) (a1 : Int32) (rec10_ : zg_S → Option (Int32 × zg_S)) (s : zg_S) (hrec : ∀ (z0 : Nat) (z1 : Int32) (s : zg_S), wr (W_G_mp) σ0 s → zw (W_G_mp) σ0 (rec z0 z1 s)) (hrec10_ : ∀  (s : zg_S), wr (W_G_mp) σ0 s → zw (W_G_mp) σ0 (rec10_  s)) (hs : wr (W_G_mp) σ0 s) : zw (W_G_mp) σ0 (B_X7_term_10 rec a1 rec10_ s) := by
  unfold B_X7_term_10
  refine zw_call (w_X7_isSign 42 s) (fun p k h => False.elim h) hs (fun r27 σ28 hσ28 => ?_)
  refine zw_ite ?_ ?_
  · refine zw_call (w_X7_isSign 47 σ28) (fun p k h => False.elim h) hσ28 (fun r37 σ38 hσ38 => ?_)
    refine zw_ite ?_ ?_
    · exact zw_some hσ38
    · exact wB_X7_term_28 σ0 rec a1 rec10_ σ38 hrec hrec10_ hσ38
  · exact wB_X7_term_28 σ0 rec a1 rec10_ σ28 hrec hrec10_ hσ28
theorem wL_X7_term_10 (σ0 : zg_S) (rec : Nat → Int32 → zg_S → Option (Int32 × zg_S)) (a1 : Int32) (n : Nat)  (s : zg_S) (hrec : ∀ (z0 : Nat) (z1 : Int32) (s : zg_S), wr (W_G_mp) σ0 s → zw (W_G_mp) σ0 (rec z0 z1 s)) (hs : wr (W_G_mp) σ0 s) : zw (W_G_mp) σ0 (L_X7_term_10 rec a1 n  s) := by
  unfold L_X7_term_10
  exact zwf_0 (fun r hr t ht => wB_X7_term_10 σ0 rec a1 r  t hrec hr ht) n  s hs
theorem w_X7_term (σ0 : zg_S) (rec : Nat → Int32 → zg_S → Option (Int32 × zg_S)) (a1 : Int32) (s : zg_S) (hrec : ∀ (z0 : Nat) (z1 : Int32) (s : zg_S), wr (W_G_mp) σ0 s → zw (W_G_mp) σ0 (rec z0 z1 s)) (hs : wr (W_G_mp) σ0 s) : zw (W_G_mp) σ0 (f_X7_term rec a1 s) := by
  unfold f_X7_term
  refine zw_rec (hrec 5 a1 s hs) (fun r47 σ48 hσ48 => ?_)
  refine zw_ite ?_ ?_
  · exact zw_some hσ48
  · exact wL_X7_term_10 σ0 rec a1 zfu σ48 hrec hσ48
theorem wB_X7_part0_145 (σ0 : zg_S) (rec : Nat → Int32 → zg_S → Option (Int32 × zg_S)) (a1 : Int32) (s : zg_S) (hrec : ∀ (z0 : Nat) (z1 : Int32) (s : zg_S), wr (W_G_mp) σ0 s → zw (W_G_mp) σ0 (rec z0 z1 s)) (hs : wr (W_G_mp) σ0 s) : zw (W_G_mp) σ0 (B_X7_part0_145 rec a1 s) := by
  unfold B_X7_part0_145
  refine zw_call (w_X7_isSign 40 s) (fun p k h => False.elim h) hs (fun r1 σ2 hσ2 => ?_)
  refine zw_ite ?_ ?_
  · exact zw_some hσ2
  · refine zw_ite ?_ ?_
    · exact zw_some hσ2
    · refine zw_up (by unfold W_G_mp; omega) hσ2 (fun σ13 hσ13 => ?_)
      refine zw_call (w_X7_nextToken σ13) (fun p k h => by unfold W_X7_nextToken at h; unfold W_G_mp; omega) hσ13 (fun r19 σ20 hσ20 => ?_)
      refine zw_rec (hrec 0 a1 σ20 hσ20) (fun r26 σ27 hσ27 => ?_)
      refine zw_ite ?_ ?_
      · exact zw_some hσ27
      · refine zw_call (w_X7_isSign 41 σ27) (fun p k h => False.elim h) hσ27 (fun r36 σ37 hσ37 => ?_)
        refine zw_ite ?_ ?_
        · exact zw_some hσ37
        · refine zw_up (by unfold W_G_mp; omega) hσ37 (fun σ45 hσ45 => ?_)
          refine zw_call (w_X7_nextToken σ45) (fun p k h => by unfold W_X7_nextToken at h; unfold W_G_mp; omega) hσ45 (fun r51 σ52 hσ52 => ?_)
          exact zw_some hσ52
theorem wB_X7_part0_84 (σ0 : zg_S) (rec : Nat → Int32 → zg_S → Option (Int32 × zg_S)) (a1 : Int32) (s : zg_S) (hrec : ∀ (z0 : Nat) (z1 : Int32) (s : zg_S), wr (W_G_mp) σ0 s → zw (W_G_mp) σ0 (rec z0 z1 s)) (hs : wr (W_G_mp) σ0 s) : zw (W_G_mp) σ0 (B_X7_part0_84 rec a1 s) := by
  unfold B_X7_part0_84
  refine zw_call (w_X7_isSign 33 s) (fun p k h => False.elim h) hs (fun r60 σ61 hσ61 => ?_)
  refine zw_ite ?_ ?_
  · exact wB_X7_part0_145 σ0 rec a1 σ61 hrec hσ61
  · refine zw_ite ?_ ?_
    · exact wB_X7_part0_145 σ0 rec a1 σ61 hrec hσ61
    · refine zw_up (by unfold W_G_mp; omega) hσ61 (fun σ73 hσ73 => ?_)
      refine zw_call (w_X7_nextToken σ73) (fun p k h => by unfold W_X7_nextToken at h; unfold W_G_mp; omega) hσ73 (fun r79 σ80 hσ80 => ?_)
      refine zw_rec (hrec 5 a1 σ80 hσ80) (fun r86 σ87 hσ87 => ?_)
      refine zw_ite ?_ ?_
      · exact zw_some hσ87
      · refine zw_up (by unfold W_G_mp; omega) hσ87 (fun σ95 hσ95 => ?_)
        refine zw_call (w_X7_step 2 33 σ95) (fun p k h => by unfold W_X7_step at h; unfold W_G_mp; omega) hσ95 (fun r101 σ102 hσ102 => ?_)
        exact zw_some hσ102
theorem w_X7_part0 (σ0 : zg_S) (rec : Nat → Int32 → zg_S → Option (Int32 × zg_S)) (a1 : Int32) (s : zg_S) (hrec : ∀ (z0 : Nat) (z1 : Int32) (s : zg_S), wr (W_G_mp) σ0 s → zw (W_G_mp) σ0 (rec z0 z1 s)) (hs : wr (W_G_mp) σ0 s) : zw (W_G_mp) σ0 (f_X7_part0 rec a1 s) := by
  unfold f_X7_part0
  refine zw_ite ?_ ?_
  · refine zw_call (w_X7_step 0 (s 0 18) s) (fun p k h => by unfold W_X7_step at h; unfold W_G_mp; omega) hs (fun r148 σ149 hσ149 => ?_)
    refine zw_up (by unfold W_G_mp; omega) hσ149 (fun σ155 hσ155 => ?_)
    refine zw_call (w_X7_nextToken σ155) (fun p k h => by unfold W_X7_nextToken at h; unfold W_G_mp; omega) hσ155 (fun r161 σ162 hσ162 => ?_)
    exact zw_some hσ162
  · refine zw_ite ?_ ?_
    · refine zw_ite ?_ ?_
      · exact wB_X7_part0_84 σ0 rec a1 s hrec hs
      · refine zw_call (w_X7_isName a1 (s 0 19) s) (fun p k h => False.elim h) hs (fun r117 σ118 hσ118 => ?_)
        refine zw_ite ?_ ?_
        · exact wB_X7_part0_84 σ0 rec a1 σ118 hrec hσ118
        · refine zw_call (w_X7_step 1 (σ118 0 19) σ118) (fun p k h => by unfold W_X7_step at h; unfold W_G_mp; omega) hσ118 (fun r127 σ128 hσ128 => ?_)
          refine zw_up (by unfold W_G_mp; omega) hσ128 (fun σ134 hσ134 => ?_)
          refine zw_call (w_X7_nextToken σ134) (fun p k h => by unfold W_X7_nextToken at h; unfold W_G_mp; omega) hσ134 (fun r140 σ141 hσ141 => ?_)
          exact zw_some hσ141
    · exact wB_X7_part0_84 σ0 rec a1 s hrec hs
theorem wG_mp (σ0 : zg_S) : ∀ (d tag : Nat) (z0 : Int32) (s : zg_S), wr W_G_mp σ0 s → zw W_G_mp σ0 (G_mp d tag z0 s) := by
  intro d
  induction d with
  | zero => intro tag z0 s _; exact zw_none
  | succ d ih =>
    intro tag z0 s hs
    match tag with
    | 0 => exact w_X7_either σ0 (G_mp d) z0 s ih hs
    | 1 => exact w_X7_both σ0 (G_mp d) z0 s ih hs
    | 2 => exact w_X7_test σ0 (G_mp d) z0 s ih hs
    | 3 => exact w_X7_sum σ0 (G_mp d) z0 s ih hs
    | 4 => exact w_X7_term σ0 (G_mp d) z0 s ih hs
    | n + 5 => exact w_X7_part0 σ0 (G_mp d) z0 s ih hs
theorem w_G_mp (d tag : Nat) (z0 : Int32) (σ0 : zg_S) : zw W_G_mp σ0 (G_mp d tag z0 σ0) := wG_mp σ0 d tag z0 σ0 wr.rf
theorem wB_X7_check_189 (σ0 : zg_S) (a1 : Int32) (x4 : Int32) (s : zg_S) (hs : wr (W_X7_check) σ0 s) : zw (W_X7_check) σ0 (B_X7_check_189 a1 x4 s) := by
  unfold B_X7_check_189
  exact zw_some hs
theorem wB_X7_check_173 (σ0 : zg_S) (a1 : Int32) (x2 : Int32) (x3 : Int32) (x4 : Int32) (s : zg_S) (hs : wr (W_X7_check) σ0 s) : zw (W_X7_check) σ0 (B_X7_check_173 a1 x2 x3 x4 s) := by
  unfold B_X7_check_173
  refine zw_ite ?_ ?_
  · refine zw_ite ?_ ?_
    · exact zw_some hs
    · exact wB_X7_check_189 σ0 a1 x4 s  hs
  · exact wB_X7_check_189 σ0 a1 x4 s  hs
theorem wB_X7_check_138 (σ0 : zg_S) (a1 : Int32) (rec138_ : Int32 → Int32 → Int32 → zg_S → Option (Int32 × zg_S)) (x2 : Int32) (x3 : Int32) (x4 : Int32) (s : zg_S) (hrec138_ : ∀ (z0 : Int32) (z1 : Int32) (z2 : Int32) (s : zg_S), wr (W_X7_check) σ0 s → zw (W_X7_check) σ0 (rec138_ z0 z1 z2 s)) (hs : wr (W_X7_check) σ0 s) : zw (W_X7_check) σ0 (B_X7_check_138 a1 rec138_ x2 x3 x4 s) := by
  unfold B_X7_check_138
  refine zw_ite ?_ ?_
  · exact wB_X7_check_173 σ0 a1 x2 x3 x4 s  hs
  · refine zw_ite ?_ ?_
    · exact wB_X7_check_173 σ0 a1 x2 x3 x4 s  hs
    · refine zw_in (fun z1 => ?_)
      refine zw_ite ?_ ?_
      · exact hrec138_ x2 x3 (x4 + 1) s hs
      · exact wB_X7_check_173 σ0 a1 x2 x3 x4 s  hs
theorem wL_X7_check_138 (σ0 : zg_S) (a1 : Int32) (n : Nat) (x2 : Int32) (x3 : Int32) (x4 : Int32) (s : zg_S) (hs : wr (W_X7_check) σ0 s) : zw (W_X7_check) σ0 (L_X7_check_138 a1 n x2 x3 x4 s) := by
  unfold L_X7_check_138
  exact zwf_III (fun r hr x2 x3 x4 t ht => wB_X7_check_138 σ0 a1 r x2 x3 x4 t hr ht) n x2 x3 x4 s hs
theorem wB_X7_check_123 (σ0 : zg_S) (a1 : Int32) (x2 : Int32) (x3 : Int32) (s : zg_S) (hs : wr (W_X7_check) σ0 s) : zw (W_X7_check) σ0 (B_X7_check_123 a1 x2 x3 s) := by
  unfold B_X7_check_123
  refine zw_call (w_X7_setAside 3 1 s) (fun p k h => by unfold W_X7_setAside at h; unfold W_X7_check; omega) hs (fun r21 σ22 hσ22 => ?_)
  exact wL_X7_check_138 σ0 a1 zfu x2 x3 0 σ22  hσ22
theorem wB_X7_check_65 (σ0 : zg_S) (a1 : Int32) (rec65_ : Int32 → Int32 → Int32 → zg_S → Option (Int32 × zg_S)) (x2 : Int32) (x3 : Int32) (x4 : Int32) (s : zg_S) (hrec65_ : ∀ (z0 : Int32) (z1 : Int32) (z2 : Int32) (s : zg_S), wr (W_X7_check) σ0 s → zw (W_X7_check) σ0 (rec65_ z0 z1 z2 s)) (hs : wr (W_X7_check) σ0 s) : zw (W_X7_check) σ0 (B_X7_check_65 a1 rec65_ x2 x3 x4 s) := by
  unfold B_X7_check_65
  refine zw_ite ?_ ?_
  · exact wB_X7_check_123 σ0 a1 x2 x3 s  hs
  · refine zw_ite ?_ ?_
    · exact wB_X7_check_123 σ0 a1 x2 x3 s  hs
    · refine zw_call (w_X7_goesOn s) (fun p k h => by unfold W_X7_goesOn at h; unfold W_X7_check; omega) hs (fun r36 σ37 hσ37 => ?_)
      refine zw_in (fun z1 => ?_)
      refine zw_up (by unfold W_X7_check; omega) hσ37 (fun σ46 hσ46 => ?_)
      refine zw_in (fun z2 => ?_)
      refine zw_up (by unfold W_X7_check; omega) hσ46 (fun σ55 hσ55 => ?_)
      exact hrec65_ x2 (x3 + 2) (x4 + 1) σ55 hσ55
theorem wL_X7_check_65 (σ0 : zg_S) (a1 : Int32) (n : Nat) (x2 : Int32) (x3 : Int32) (x4 : Int32) (s : zg_S) (hs : wr (W_X7_check) σ0 s) : zw (W_X7_check) σ0 (L_X7_check_65 a1 n x2 x3 x4 s) := by
  unfold L_X7_check_65
  exact zwf_III (fun r hr x2 x3 x4 t ht => wB_X7_check_65 σ0 a1 r x2 x3 x4 t hr ht) n x2 x3 x4 s hs
theorem w_X7_check (a1 : Int32) (σ0 : zg_S) : zw (W_X7_check) σ0 (f_X7_check a1 σ0) := by
  unfold f_X7_check
  refine zw_up (by unfold W_X7_check; omega) wr.rf (fun σ67 hσ67 => ?_)
  refine zw_call (w_X7_isIn (Int32.toInt64 a1) (Int32.toInt64 1) (Int32.toInt64 30) σ67) (fun p k h => False.elim h) hσ67 (fun r73 σ74 hσ74 => ?_)
  refine zw_ite ?_ ?_
  · exact zw_some hσ74
  · refine zw_ite ?_ ?_
    · exact zw_some hσ74
    · refine zw_call (w_X7_setAside 1 3 σ74) (fun p k h => by unfold W_X7_setAside at h; unfold W_X7_check; omega) hσ74 (fun r84 σ85 hσ85 => ?_)
      refine zw_call (w_X7_setAside 2 1 σ85) (fun p k h => by unfold W_X7_setAside at h; unfold W_X7_check; omega) hσ85 (fun r91 σ92 hσ92 => ?_)
      exact wL_X7_check_65 σ0 a1 zfu (σ0 0 29) 0 0 σ92  hσ92
theorem wB_X7_firstShaded_15 (σ0 : zg_S) (y0 : Int32) (s : zg_S) (hs : wr (W_X7_firstShaded) σ0 s) : zw (W_X7_firstShaded) σ0 (B_X7_firstShaded_15 y0 s) := by
  unfold B_X7_firstShaded_15
  refine zw_ite ?_ ?_
  · exact zw_some hs
  · refine zw_call (w_X7_shadeFrom s) (fun p k h => False.elim h) hs (fun r6 σ7 hσ7 => ?_)
    refine zw_ite ?_ ?_
    · exact zw_some hσ7
    · exact zw_some hσ7
theorem w_X7_firstShaded  (σ0 : zg_S) : zw (W_X7_firstShaded) σ0 (f_X7_firstShaded  σ0) := by
  unfold f_X7_firstShaded
  refine zw_call (w_X7_shadeFrom σ0) (fun p k h => False.elim h) wr.rf (fun r16 σ17 hσ17 => ?_)
  refine zw_ite ?_ ?_
  · refine zw_call (w_X7_shadeFrom σ17) (fun p k h => False.elim h) hσ17 (fun r25 σ26 hσ26 => ?_)
    exact wB_X7_firstShaded_15 σ0 r25 σ26  hσ26
  · exact wB_X7_firstShaded_15 σ0 0 σ17  hσ17
theorem w_X7_orNone (a0 : Int32) (σ0 : zg_S) : zw (W_X7_orNone) σ0 (f_X7_orNone a0 σ0) := by
  unfold f_X7_orNone
  refine zw_ite ?_ ?_
  · exact zw_some wr.rf
  · exact zw_some wr.rf
theorem wB_X7_shadedSet_30 (σ0 : zg_S) (rec4_ : Int32 → Int32 → zg_S → Option (Int32 × zg_S)) (x2 : Int32) (y0 : Int32) (y1 : Int32) (s : zg_S) (hrec4_ : ∀ (z0 : Int32) (z1 : Int32) (s : zg_S), wr (W_X7_shadedSet) σ0 s → zw (W_X7_shadedSet) σ0 (rec4_ z0 z1 s)) (hs : wr (W_X7_shadedSet) σ0 s) : zw (W_X7_shadedSet) σ0 (B_X7_shadedSet_30 rec4_ x2 y0 y1 s) := by
  unfold B_X7_shadedSet_30
  exact hrec4_ (y1 ||| y0) (x2 + 1) s hs
theorem wB_X7_shadedSet_4 (σ0 : zg_S) (rec4_ : Int32 → Int32 → zg_S → Option (Int32 × zg_S)) (x1 : Int32) (x2 : Int32) (s : zg_S) (hrec4_ : ∀ (z0 : Int32) (z1 : Int32) (s : zg_S), wr (W_X7_shadedSet) σ0 s → zw (W_X7_shadedSet) σ0 (rec4_ z0 z1 s)) (hs : wr (W_X7_shadedSet) σ0 s) : zw (W_X7_shadedSet) σ0 (B_X7_shadedSet_4 rec4_ x1 x2 s) := by
  unfold B_X7_shadedSet_4
  refine zw_ite ?_ ?_
  · exact zw_some hs
  · refine zw_call (w_X7_isShaded x2 s) (fun p k h => False.elim h) hs (fun r8 σ9 hσ9 => ?_)
    refine zw_ite ?_ ?_
    · exact wB_X7_shadedSet_30 σ0 rec4_ x2 0 x1 σ9 hrec4_ hσ9
    · exact wB_X7_shadedSet_30 σ0 rec4_ x2 (1 <<< (x2 &&& 31)) x1 σ9 hrec4_ hσ9
theorem wL_X7_shadedSet_4 (σ0 : zg_S)  (n : Nat) (x1 : Int32) (x2 : Int32) (s : zg_S) (hs : wr (W_X7_shadedSet) σ0 s) : zw (W_X7_shadedSet) σ0 (L_X7_shadedSet_4  n x1 x2 s) := by
  unfold L_X7_shadedSet_4
  exact zwf_II (fun r hr x1 x2 t ht => wB_X7_shadedSet_4 σ0  r x1 x2 t hr ht) n x1 x2 s hs
theorem w_X7_shadedSet  (σ0 : zg_S) : zw (W_X7_shadedSet) σ0 (f_X7_shadedSet  σ0) := by
  unfold f_X7_shadedSet
  exact wL_X7_shadedSet_4 σ0 zfu 0 0 σ0  wr.rf
theorem wB_X7_cloth_44 (σ0 : zg_S) (a1 : Int32) (s : zg_S) (hs : wr (W_X7_cloth) σ0 s) : zw (W_X7_cloth) σ0 (B_X7_cloth_44 a1 s) := by
  unfold B_X7_cloth_44
  refine zw_in (fun z1 => ?_)
  exact zw_some hs
theorem w_X7_cloth (a1 : Int32) (σ0 : zg_S) : zw (W_X7_cloth) σ0 (f_X7_cloth a1 σ0) := by
  unfold f_X7_cloth
  refine zw_ite ?_ ?_
  · exact wB_X7_cloth_44 σ0 a1 σ0  wr.rf
  · refine zw_ite ?_ ?_
    · exact wB_X7_cloth_44 σ0 a1 σ0  wr.rf
    · refine zw_ite ?_ ?_
      · exact wB_X7_cloth_44 σ0 a1 σ0  wr.rf
      · refine zw_ite ?_ ?_
        · exact wB_X7_cloth_44 σ0 a1 σ0  wr.rf
        · refine zw_ite ?_ ?_
          · refine zw_call (w_X7_heat σ0) (fun p k h => False.elim h) wr.rf (fun r18 σ19 hσ19 => ?_)
            exact zw_some hσ19
          · refine zw_ite ?_ ?_
            · refine zw_call (w_X7_firstShaded σ0) (fun p k h => False.elim h) wr.rf (fun r28 σ29 hσ29 => ?_)
              refine zw_call (w_X7_orNone r28 σ29) (fun p k h => False.elim h) hσ29 (fun r35 σ36 hσ36 => ?_)
              exact zw_some hσ36
            · refine zw_ite ?_ ?_
              · refine zw_call (w_X7_shadedSet σ0) (fun p k h => False.elim h) wr.rf (fun r45 σ46 hσ46 => ?_)
                exact zw_some hσ46
              · exact zw_some wr.rf
theorem w_X7_comes (a1 : Int32) (a2 : Int32) (a3 : Int32) (σ0 : zg_S) : zw (W_X7_comes) σ0 (f_X7_comes a1 a2 a3 σ0) := by
  unfold f_X7_comes
  refine zw_up (by unfold W_X7_comes; omega) wr.rf (fun σ3 hσ3 => ?_)
  refine zw_call (w_X7_sets (σ0 1 0) 0 a1 σ3) (fun p k h => by unfold W_X7_sets at h; unfold W_X7_comes; omega) hσ3 (fun r9 σ10 hσ10 => ?_)
  refine zw_call (w_X7_sets (σ0 1 0) 1 a2 σ10) (fun p k h => by unfold W_X7_sets at h; unfold W_X7_comes; omega) hσ10 (fun r16 σ17 hσ17 => ?_)
  refine zw_call (w_X7_sets (σ0 1 0) 2 100 σ17) (fun p k h => by unfold W_X7_sets at h; unfold W_X7_comes; omega) hσ17 (fun r23 σ24 hσ24 => ?_)
  refine zw_call (w_X7_sets (σ0 1 0) 3 a3 σ24) (fun p k h => by unfold W_X7_sets at h; unfold W_X7_comes; omega) hσ24 (fun r30 σ31 hσ31 => ?_)
  exact zw_some hσ31
theorem w_X7_isSheet (a0 : Int32) (σ0 : zg_S) : zw (W_X7_isSheet) σ0 (f_X7_isSheet a0 σ0) := by
  unfold f_X7_isSheet
  refine zw_call (w_X7_isIn (Int32.toInt64 a0) (Int32.toInt64 0) (Int32.toInt64 3) σ0) (fun p k h => False.elim h) wr.rf (fun r1 σ2 hσ2 => ?_)
  refine zw_ite ?_ zw_none
  exact zw_some hσ2
theorem wB_X7_copy_150 (σ0 : zg_S) (a1 : Int32) (a2 : Int32) (a3 : Int32) (a4 : Int32) (a5 : Int32) (rec150_ : Int32 → zg_S → Option (Int32 × zg_S)) (x6 : Int32) (s : zg_S) (hrec150_ : ∀ (z0 : Int32) (s : zg_S), wr (W_X7_copy) σ0 s → zw (W_X7_copy) σ0 (rec150_ z0 s)) (hs : wr (W_X7_copy) σ0 s) : zw (W_X7_copy) σ0 (B_X7_copy_150 a1 a2 a3 a4 a5 rec150_ x6 s) := by
  unfold B_X7_copy_150
  refine zw_ite ?_ ?_
  · exact zw_some hs
  · refine zw_in (fun z1 => ?_)
    refine zw_let (fun y7 => ?_)
    refine zw_in (fun z2 => ?_)
    refine zw_up (by unfold W_X7_copy; omega) hs (fun σ13 hσ13 => ?_)
    exact hrec150_ (x6 + 1) σ13 hσ13
theorem wL_X7_copy_150 (σ0 : zg_S) (a1 : Int32) (a2 : Int32) (a3 : Int32) (a4 : Int32) (a5 : Int32) (n : Nat) (x6 : Int32) (s : zg_S) (hs : wr (W_X7_copy) σ0 s) : zw (W_X7_copy) σ0 (L_X7_copy_150 a1 a2 a3 a4 a5 n x6 s) := by
  unfold L_X7_copy_150
  exact zwf_I (fun r hr x6 t ht => wB_X7_copy_150 σ0 a1 a2 a3 a4 a5 r x6 t hr ht) n x6 s hs
theorem wB_X7_copy_113 (σ0 : zg_S) (a1 : Int32) (a2 : Int32) (a3 : Int32) (a4 : Int32) (a5 : Int32) (rec113_ : Int32 → zg_S → Option (Int32 × zg_S)) (x6 : Int32) (s : zg_S) (hrec113_ : ∀ (z0 : Int32) (s : zg_S), wr (W_X7_copy) σ0 s → zw (W_X7_copy) σ0 (rec113_ z0 s)) (hs : wr (W_X7_copy) σ0 s) : zw (W_X7_copy) σ0 (B_X7_copy_113 a1 a2 a3 a4 a5 rec113_ x6 s) := by
  unfold B_X7_copy_113
  refine zw_ite ?_ ?_
  · exact wL_X7_copy_150 σ0 a1 a2 a3 a4 a5 zfu 0 s  hs
  · refine zw_in (fun z1 => ?_)
    refine zw_let (fun y29 => ?_)
    refine zw_in (fun z2 => ?_)
    refine zw_up (by unfold W_X7_copy; omega) hs (fun σ35 hσ35 => ?_)
    exact hrec113_ (x6 + 1) σ35 hσ35
theorem wL_X7_copy_113 (σ0 : zg_S) (a1 : Int32) (a2 : Int32) (a3 : Int32) (a4 : Int32) (a5 : Int32) (n : Nat) (x6 : Int32) (s : zg_S) (hs : wr (W_X7_copy) σ0 s) : zw (W_X7_copy) σ0 (L_X7_copy_113 a1 a2 a3 a4 a5 n x6 s) := by
  unfold L_X7_copy_113
  exact zwf_I (fun r hr x6 t ht => wB_X7_copy_113 σ0 a1 a2 a3 a4 a5 r x6 t hr ht) n x6 s hs
theorem w_X7_copy (a1 : Int32) (a2 : Int32) (a3 : Int32) (a4 : Int32) (a5 : Int32) (σ0 : zg_S) : zw (W_X7_copy) σ0 (f_X7_copy a1 a2 a3 a4 a5 σ0) := by
  unfold f_X7_copy
  refine zw_call (w_X7_isSheet a1 σ0) (fun p k h => False.elim h) wr.rf (fun r43 σ44 hσ44 => ?_)
  refine zw_ite ?_ ?_
  · exact zw_some hσ44
  · refine zw_call (w_X7_isSheet a3 σ44) (fun p k h => False.elim h) hσ44 (fun r53 σ54 hσ54 => ?_)
    refine zw_ite ?_ ?_
    · exact zw_some hσ54
    · refine zw_in (fun z1 => ?_)
      refine zw_ite ?_ ?_
      · exact zw_some hσ54
      · refine zw_in (fun z2 => ?_)
        refine zw_ite ?_ ?_
        · refine zw_ite ?_ ?_
          · refine zw_ite ?_ ?_
            · exact zw_some hσ54
            · refine zw_ite ?_ ?_
              · exact zw_some hσ54
              · refine zw_ite ?_ ?_
                · exact zw_some hσ54
                · refine zw_ite ?_ ?_
                  · exact zw_some hσ54
                  · refine zw_ite ?_ ?_
                    · exact wL_X7_copy_113 σ0 a1 a2 a3 a4 a5 zfu 0 σ54  hσ54
                    · exact zw_some hσ54
          · exact zw_some hσ54
        · exact zw_some hσ54
theorem wB_X7_manyShaded_7 (σ0 : zg_S) (rec7_ : Int32 → Int32 → zg_S → Option (Int32 × zg_S)) (x1 : Int32) (x2 : Int32) (s : zg_S) (hrec7_ : ∀ (z0 : Int32) (z1 : Int32) (s : zg_S), wr (W_X7_manyShaded) σ0 s → zw (W_X7_manyShaded) σ0 (rec7_ z0 z1 s)) (hs : wr (W_X7_manyShaded) σ0 s) : zw (W_X7_manyShaded) σ0 (B_X7_manyShaded_7 rec7_ x1 x2 s) := by
  unfold B_X7_manyShaded_7
  refine zw_ite ?_ ?_
  · exact zw_some hs
  · exact hrec7_ (x1 + 1) (x2 &&& (x2 - 1)) s hs
theorem wL_X7_manyShaded_7 (σ0 : zg_S)  (n : Nat) (x1 : Int32) (x2 : Int32) (s : zg_S) (hs : wr (W_X7_manyShaded) σ0 s) : zw (W_X7_manyShaded) σ0 (L_X7_manyShaded_7  n x1 x2 s) := by
  unfold L_X7_manyShaded_7
  exact zwf_II (fun r hr x1 x2 t ht => wB_X7_manyShaded_7 σ0  r x1 x2 t hr ht) n x1 x2 s hs
theorem w_X7_manyShaded  (σ0 : zg_S) : zw (W_X7_manyShaded) σ0 (f_X7_manyShaded  σ0) := by
  unfold f_X7_manyShaded
  refine zw_call (w_X7_shadedSet σ0) (fun p k h => False.elim h) wr.rf (fun r10 σ11 hσ11 => ?_)
  exact wL_X7_manyShaded_7 σ0 zfu 0 r10 σ11  hσ11
theorem w_X7_count (a1 : Int32) (σ0 : zg_S) : zw (W_X7_count) σ0 (f_X7_count a1 σ0) := by
  unfold f_X7_count
  refine zw_ite ?_ ?_
  · exact zw_some wr.rf
  · refine zw_ite ?_ ?_
    · exact zw_some wr.rf
    · refine zw_ite ?_ ?_
      · refine zw_call (w_X7_manyShaded σ0) (fun p k h => False.elim h) wr.rf (fun r9 σ10 hσ10 => ?_)
        exact zw_some hσ10
      · refine zw_ite ?_ ?_
        · exact zw_some wr.rf
        · refine zw_ite ?_ ?_
          · exact zw_some wr.rf
          · refine zw_ite ?_ ?_
            · exact zw_some wr.rf
            · refine zw_ite ?_ ?_
              · exact zw_some wr.rf
              · exact zw_some wr.rf
theorem wB_X7_deal_17 (σ0 : zg_S) (a1 : Int32) (rec17_ : Int32 → zg_S → Option (Int32 × zg_S)) (x2 : Int32) (s : zg_S) (hrec17_ : ∀ (z0 : Int32) (s : zg_S), wr (W_X7_deal) σ0 s → zw (W_X7_deal) σ0 (rec17_ z0 s)) (hs : wr (W_X7_deal) σ0 s) : zw (W_X7_deal) σ0 (B_X7_deal_17 a1 rec17_ x2 s) := by
  unfold B_X7_deal_17
  refine zw_ite ?_ ?_
  · exact zw_some hs
  · refine zw_ite ?_ ?_
    · exact zw_some hs
    · refine zw_call (w_X7_drawn s) (fun p k h => by unfold W_X7_drawn at h; unfold W_X7_deal; omega) hs (fun r7 σ8 hσ8 => ?_)
      refine zw_call (w_X7_drawn σ8) (fun p k h => by unfold W_X7_drawn at h; unfold W_X7_deal; omega) hσ8 (fun r16 σ17 hσ17 => ?_)
      refine zw_call (w_X7_drawn σ17) (fun p k h => by unfold W_X7_drawn at h; unfold W_X7_deal; omega) hσ17 (fun r25 σ26 hσ26 => ?_)
      refine zw_call (w_X7_comes (r7 - r7 / 6 * 6) (r16 - r16 / 12 * 12) (r25 - r25 / 40 * 40) σ26) (fun p k h => by unfold W_X7_comes at h; unfold W_X7_deal; omega) hσ26 (fun r32 σ33 hσ33 => ?_)
      exact hrec17_ (x2 + 1) σ33 hσ33
theorem wL_X7_deal_17 (σ0 : zg_S) (a1 : Int32) (n : Nat) (x2 : Int32) (s : zg_S) (hs : wr (W_X7_deal) σ0 s) : zw (W_X7_deal) σ0 (L_X7_deal_17 a1 n x2 s) := by
  unfold L_X7_deal_17
  exact zwf_I (fun r hr x2 t ht => wB_X7_deal_17 σ0 a1 r x2 t hr ht) n x2 s hs
theorem w_X7_deal (a1 : Int32) (σ0 : zg_S) : zw (W_X7_deal) σ0 (f_X7_deal a1 σ0) := by
  unfold f_X7_deal
  refine zw_call (w_X7_isIn (Int32.toInt64 a1) (Int32.toInt64 1) (Int32.toInt64 9) σ0) (fun p k h => False.elim h) wr.rf (fun r41 σ42 hσ42 => ?_)
  refine zw_ite ?_ ?_
  · exact zw_some hσ42
  · exact wL_X7_deal_17 σ0 a1 zfu 0 σ42  hσ42
theorem w_X7_fee  (σ0 : zg_S) : zw (W_X7_fee) σ0 (f_X7_fee  σ0) := by
  unfold f_X7_fee
  refine zw_call (w_X7_counts 1 σ0) (fun p k h => False.elim h) wr.rf (fun r1 σ2 hσ2 => ?_)
  refine zw_ite ?_ ?_
  · refine zw_up (by unfold W_X7_fee; omega) hσ2 (fun σ12 hσ12 => ?_)
    refine zw_up (by unfold W_X7_fee; omega) hσ12 (fun σ18 hσ18 => ?_)
    refine zw_call (w_X7_worked r1 σ18) (fun p k h => by unfold W_X7_worked at h; unfold W_X7_fee; omega) hσ18 (fun r24 σ25 hσ25 => ?_)
    exact zw_some hσ25
  · exact zw_some hσ2
theorem wB_X7_feed_47 (σ0 : zg_S) (a1 : Int32) (a2 : Int32) (a3 : Int32) (rec18_ : Int32 → zg_S → Option (Int32 × zg_S)) (x4 : Int32) (y0 : Int32) (s : zg_S) (hrec18_ : ∀ (z0 : Int32) (s : zg_S), wr (W_X7_feed) σ0 s → zw (W_X7_feed) σ0 (rec18_ z0 s)) (hs : wr (W_X7_feed) σ0 s) : zw (W_X7_feed) σ0 (B_X7_feed_47 a1 a2 a3 rec18_ x4 y0 s) := by
  unfold B_X7_feed_47
  refine zw_let (fun y3 => ?_)
  refine zw_in (fun z1 => ?_)
  refine zw_up (by unfold W_X7_feed; omega) hs (fun σ9 hσ9 => ?_)
  refine zw_up (by unfold W_X7_feed; omega) hσ9 (fun σ15 hσ15 => ?_)
  exact hrec18_ (x4 + 1) σ15 hσ15
theorem wB_X7_feed_18 (σ0 : zg_S) (a1 : Int32) (a2 : Int32) (a3 : Int32) (rec18_ : Int32 → zg_S → Option (Int32 × zg_S)) (x4 : Int32) (s : zg_S) (hrec18_ : ∀ (z0 : Int32) (s : zg_S), wr (W_X7_feed) σ0 s → zw (W_X7_feed) σ0 (rec18_ z0 s)) (hs : wr (W_X7_feed) σ0 s) : zw (W_X7_feed) σ0 (B_X7_feed_18 a1 a2 a3 rec18_ x4 s) := by
  unfold B_X7_feed_18
  refine zw_ite ?_ ?_
  · exact zw_some hs
  · refine zw_ite ?_ ?_
    · refine zw_ite ?_ ?_
      · exact wB_X7_feed_47 σ0 a1 a2 a3 rec18_ x4 a3 s hrec18_ hs
      · exact wB_X7_feed_47 σ0 a1 a2 a3 rec18_ x4 a2 s hrec18_ hs
    · exact wB_X7_feed_47 σ0 a1 a2 a3 rec18_ x4 a1 s hrec18_ hs
theorem wL_X7_feed_18 (σ0 : zg_S) (a1 : Int32) (a2 : Int32) (a3 : Int32) (n : Nat) (x4 : Int32) (s : zg_S) (hs : wr (W_X7_feed) σ0 s) : zw (W_X7_feed) σ0 (L_X7_feed_18 a1 a2 a3 n x4 s) := by
  unfold L_X7_feed_18
  exact zwf_I (fun r hr x4 t ht => wB_X7_feed_18 σ0 a1 a2 a3 r x4 t hr ht) n x4 s hs
theorem w_X7_feed (a1 : Int32) (a2 : Int32) (a3 : Int32) (σ0 : zg_S) : zw (W_X7_feed) σ0 (f_X7_feed a1 a2 a3 σ0) := by
  unfold f_X7_feed
  refine zw_ite ?_ ?_
  · exact wL_X7_feed_18 σ0 a1 a2 a3 zfu 0 σ0  wr.rf
  · exact zw_some wr.rf
theorem wB_X7_fine_60 (σ0 : zg_S) (a1 : Int32) (x2 : Int32) (y0 : Int32) (y1 : Int32) (s : zg_S) (hs : wr (W_X7_fine) σ0 s) : zw (W_X7_fine) σ0 (B_X7_fine_60 a1 x2 y0 y1 s) := by
  unfold B_X7_fine_60
  refine zw_in (fun z1 => ?_)
  refine zw_up (by unfold W_X7_fine; omega) hs (fun σ4 hσ4 => ?_)
  refine zw_call (w_X7_worked x2 σ4) (fun p k h => by unfold W_X7_worked at h; unfold W_X7_fine; omega) hσ4 (fun r10 σ11 hσ11 => ?_)
  exact zw_some hσ11
theorem w_X7_fine (a1 : Int32) (σ0 : zg_S) : zw (W_X7_fine) σ0 (f_X7_fine a1 σ0) := by
  unfold f_X7_fine
  refine zw_call (w_X7_isStall a1 σ0) (fun p k h => False.elim h) wr.rf (fun r17 σ18 hσ18 => ?_)
  refine zw_ite ?_ ?_
  · exact zw_some hσ18
  · refine zw_call (w_X7_counts 2 σ18) (fun p k h => False.elim h) hσ18 (fun r26 σ27 hσ27 => ?_)
    refine zw_ite ?_ ?_
    · refine zw_call (w_X7_of a1 2 σ27) (fun p k h => False.elim h) hσ27 (fun r37 σ38 hσ38 => ?_)
      refine zw_up (by unfold W_X7_fine; omega) hσ38 (fun σ44 hσ44 => ?_)
      refine zw_call (w_X7_isShaded a1 σ44) (fun p k h => False.elim h) hσ44 (fun r50 σ51 hσ51 => ?_)
      refine zw_ite ?_ ?_
      · exact wB_X7_fine_60 σ0 a1 r26 0 115 σ51  hσ51
      · exact wB_X7_fine_60 σ0 a1 r26 1 115 σ51  hσ51
    · refine zw_call (w_X7_of a1 2 σ27) (fun p k h => False.elim h) hσ27 (fun r61 σ62 hσ62 => ?_)
      exact zw_some hσ62
theorem w_X7_goods (a1 : Int32) (a2 : Int32) (σ0 : zg_S) : zw (W_X7_goods) σ0 (f_X7_goods a1 a2 σ0) := by
  unfold f_X7_goods
  refine zw_call (w_X7_isStall a1 σ0) (fun p k h => False.elim h) wr.rf (fun r1 σ2 hσ2 => ?_)
  refine zw_ite ?_ ?_
  · exact zw_some hσ2
  · refine zw_call (w_X7_isIn (Int32.toInt64 a2) (Int32.toInt64 0) (Int32.toInt64 100) σ2) (fun p k h => False.elim h) hσ2 (fun r11 σ12 hσ12 => ?_)
    refine zw_ite ?_ ?_
    · exact zw_some hσ12
    · refine zw_call (w_X7_laysBy σ12) (fun p k h => by unfold W_X7_laysBy at h; unfold W_X7_goods; omega) hσ12 (fun r20 σ21 hσ21 => ?_)
      refine zw_call (w_X7_goesOnMany a2 σ21) (fun p k h => by unfold W_X7_goesOnMany at h; unfold W_X7_goods; omega) hσ21 (fun r27 σ28 hσ28 => ?_)
      refine zw_call (w_X7_of a1 2 σ28) (fun p k h => False.elim h) hσ28 (fun r34 σ35 hσ35 => ?_)
      refine zw_call (w_X7_laysBack σ35) (fun p k h => by unfold W_X7_laysBack at h; unfold W_X7_goods; omega) hσ35 (fun r43 σ44 hσ44 => ?_)
      exact zw_some hσ44
theorem wB_X7_hours_51 (σ0 : zg_S) (a1 : Int32) (x2 : Int32) (s : zg_S) (hs : wr (W_X7_hours) σ0 s) : zw (W_X7_hours) σ0 (B_X7_hours_51 a1 x2 s) := by
  unfold B_X7_hours_51
  exact zw_some hs
theorem wB_X7_hours_24 (σ0 : zg_S) (a1 : Int32) (rec24_ : Int32 → Int32 → zg_S → Option (Int32 × zg_S)) (x2 : Int32) (x3 : Int32) (s : zg_S) (hrec24_ : ∀ (z0 : Int32) (z1 : Int32) (s : zg_S), wr (W_X7_hours) σ0 s → zw (W_X7_hours) σ0 (rec24_ z0 z1 s)) (hs : wr (W_X7_hours) σ0 s) : zw (W_X7_hours) σ0 (B_X7_hours_24 a1 rec24_ x2 x3 s) := by
  unfold B_X7_hours_24
  refine zw_ite ?_ ?_
  · exact wB_X7_hours_51 σ0 a1 x2 s  hs
  · refine zw_ite ?_ ?_
    · exact wB_X7_hours_51 σ0 a1 x2 s  hs
    · refine zw_call (w_X7_goesOn s) (fun p k h => by unfold W_X7_goesOn at h; unfold W_X7_hours; omega) hs (fun r7 σ8 hσ8 => ?_)
      exact hrec24_ x2 (x3 + 1) σ8 hσ8
theorem wL_X7_hours_24 (σ0 : zg_S) (a1 : Int32) (n : Nat) (x2 : Int32) (x3 : Int32) (s : zg_S) (hs : wr (W_X7_hours) σ0 s) : zw (W_X7_hours) σ0 (L_X7_hours_24 a1 n x2 x3 s) := by
  unfold L_X7_hours_24
  exact zwf_II (fun r hr x2 x3 t ht => wB_X7_hours_24 σ0 a1 r x2 x3 t hr ht) n x2 x3 s hs
theorem w_X7_hours (a1 : Int32) (σ0 : zg_S) : zw (W_X7_hours) σ0 (f_X7_hours a1 σ0) := by
  unfold f_X7_hours
  refine zw_call (w_X7_isIn (Int32.toInt64 a1) (Int32.toInt64 1) (Int32.toInt64 100) σ0) (fun p k h => False.elim h) wr.rf (fun r16 σ17 hσ17 => ?_)
  refine zw_ite ?_ ?_
  · exact zw_some hσ17
  · exact wL_X7_hours_24 σ0 a1 zfu (σ17 1 4) 0 σ17  hσ17
theorem w_X7_isText (a1 : Int32) (σ0 : zg_S) : zw (W_X7_isText) σ0 (f_X7_isText a1 σ0) := by
  unfold f_X7_isText
  refine zw_call (w_X7_isIn (Int32.toInt64 a1) (Int32.toInt64 0) (Int32.toInt64 ((σ0 1 1) - 1)) σ0) (fun p k h => False.elim h) wr.rf (fun r1 σ2 hσ2 => ?_)
  refine zw_ite ?_ zw_none
  exact zw_some hσ2
theorem wB_X7_isWordAt_10 (σ0 : zg_S) (a1 : Int32) (a2 : Int32) (a3 : Int32) (a4 : Int32) (y0 : Int32) (s : zg_S) (hs : wr (W_X7_isWordAt) σ0 s) : zw (W_X7_isWordAt) σ0 (B_X7_isWordAt_10 a1 a2 a3 a4 y0 s) := by
  unfold B_X7_isWordAt_10
  refine zw_ite ?_ ?_
  · refine zw_ite ?_ ?_
    · refine zw_in (fun z1 => ?_)
      refine zw_ite ?_ ?_
      · refine zw_in (fun z2 => ?_)
        refine zw_ite ?_ ?_
        · refine zw_in (fun z3 => ?_)
          refine zw_ite ?_ ?_
          · refine zw_ite ?_ ?_
            · exact zw_some hs
            · refine zw_in (fun z4 => ?_)
              refine zw_ite ?_ ?_
              · exact zw_some hs
              · exact zw_some hs
          · exact zw_some hs
        · exact zw_some hs
      · exact zw_some hs
    · exact zw_some hs
  · exact zw_some hs
theorem w_X7_isWordAt (a1 : Int32) (a2 : Int32) (a3 : Int32) (a4 : Int32) (σ0 : zg_S) : zw (W_X7_isWordAt) σ0 (f_X7_isWordAt a1 a2 a3 a4 σ0) := by
  unfold f_X7_isWordAt
  refine zw_ite ?_ ?_
  · exact wB_X7_isWordAt_10 σ0 a1 a2 a3 a4 3 σ0  wr.rf
  · exact wB_X7_isWordAt_10 σ0 a1 a2 a3 a4 4 σ0  wr.rf
theorem w_X7_item (a1 : Int32) (a2 : Int32) (σ0 : zg_S) : zw (W_X7_item) σ0 (f_X7_item a1 a2 σ0) := by
  unfold f_X7_item
  refine zw_call (w_X7_isSlot a1 σ0) (fun p k h => False.elim h) wr.rf (fun r1 σ2 hσ2 => ?_)
  refine zw_ite ?_ ?_
  · exact zw_some hσ2
  · refine zw_in (fun z1 => ?_)
    refine zw_ite ?_ ?_
    · refine zw_call (w_X7_isIn (Int32.toInt64 a2) (Int32.toInt64 0) (Int32.toInt64 ((σ2 10 (Int32.toNatClampNeg a1)) - 1)) σ2) (fun p k h => False.elim h) hσ2 (fun r15 σ16 hσ16 => ?_)
      refine zw_ite ?_ ?_
      · exact zw_some hσ16
      · refine zw_in (fun z2 => ?_)
        refine zw_let (fun y27 => ?_)
        refine zw_ite ?_ ?_
        · exact zw_some hσ16
        · exact zw_some hσ16
    · refine zw_ite ?_ ?_
      · exact zw_some hσ2
      · exact zw_some hσ2
theorem w_X7_keep  (σ0 : zg_S) : zw (W_X7_keep) σ0 (f_X7_keep  σ0) := by
  unfold f_X7_keep
  refine zw_up (by unfold W_X7_keep; omega) wr.rf (fun σ1 hσ1 => ?_)
  refine zw_call (w_X7_setAside 1 2 σ1) (fun p k h => by unfold W_X7_setAside at h; unfold W_X7_keep; omega) hσ1 (fun r7 σ8 hσ8 => ?_)
  exact zw_some hσ8
theorem w_X7_key  (σ0 : zg_S) : zw (W_X7_key) σ0 (f_X7_key  σ0) := by
  unfold f_X7_key
  refine zw_call (w_X7_isWordAt 109 101 108 116 σ0) (fun p k h => False.elim h) wr.rf (fun r1 σ2 hσ2 => ?_)
  refine zw_ite ?_ ?_
  · refine zw_call (w_X7_isWordAt 102 101 101 0 σ2) (fun p k h => False.elim h) hσ2 (fun r10 σ11 hσ11 => ?_)
    refine zw_ite ?_ ?_
    · refine zw_call (w_X7_isWordAt 102 105 110 101 σ11) (fun p k h => False.elim h) hσ11 (fun r19 σ20 hσ20 => ?_)
      refine zw_ite ?_ ?_
      · exact zw_some hσ20
      · exact zw_some hσ20
    · exact zw_some hσ11
  · exact zw_some hσ2
theorem w_X7_worth (a1 : Int32) (σ0 : zg_S) : zw (W_X7_worth) σ0 (f_X7_worth a1 σ0) := by
  unfold f_X7_worth
  refine zw_call (w_X7_of a1 3 σ0) (fun p k h => False.elim h) wr.rf (fun r1 σ2 hσ2 => ?_)
  refine zw_call (w_X7_of a1 0 σ2) (fun p k h => False.elim h) hσ2 (fun r10 σ11 hσ11 => ?_)
  refine zw_ite ?_ ?_
  · exact zw_some hσ11
  · refine zw_ite ?_ ?_
    · exact zw_some hσ11
    · refine zw_ite ?_ ?_
      · exact zw_some hσ11
      · refine zw_ite ?_ ?_
        · exact zw_some hσ11
        · refine zw_ite ?_ ?_
          · exact zw_some hσ11
          · exact zw_some hσ11
theorem wB_X7_lay_150 (σ0 : zg_S) (a1 : Int32) (a2 : Int32) (a3 : Int32) (rec150_ : Int32 → Int32 → zg_S → Option (Int32 × zg_S)) (x5 : Int32) (x6 : Int32) (s : zg_S) (hrec150_ : ∀ (z0 : Int32) (z1 : Int32) (s : zg_S), wr (W_X7_lay) σ0 s → zw (W_X7_lay) σ0 (rec150_ z0 z1 s)) (hs : wr (W_X7_lay) σ0 s) : zw (W_X7_lay) σ0 (B_X7_lay_150 a1 a2 a3 rec150_ x5 x6 s) := by
  unfold B_X7_lay_150
  refine zw_ite ?_ ?_
  · exact zw_some hs
  · refine zw_in (fun z1 => ?_)
    refine zw_let (fun y7 => ?_)
    refine zw_in (fun z2 => ?_)
    refine zw_up (by unfold W_X7_lay; omega) hs (fun σ13 hσ13 => ?_)
    exact hrec150_ x5 (x6 + 1) σ13 hσ13
theorem wL_X7_lay_150 (σ0 : zg_S) (a1 : Int32) (a2 : Int32) (a3 : Int32) (n : Nat) (x5 : Int32) (x6 : Int32) (s : zg_S) (hs : wr (W_X7_lay) σ0 s) : zw (W_X7_lay) σ0 (L_X7_lay_150 a1 a2 a3 n x5 x6 s) := by
  unfold L_X7_lay_150
  exact zwf_II (fun r hr x5 x6 t ht => wB_X7_lay_150 σ0 a1 a2 a3 r x5 x6 t hr ht) n x5 x6 s hs
theorem wB_X7_lay_129 (σ0 : zg_S) (a1 : Int32) (a2 : Int32) (a3 : Int32) (x5 : Int32) (y0 : Int32) (y1 : Int32) (s : zg_S) (hs : wr (W_X7_lay) σ0 s) : zw (W_X7_lay) σ0 (B_X7_lay_129 a1 a2 a3 x5 y0 y1 s) := by
  unfold B_X7_lay_129
  refine zw_in (fun z1 => ?_)
  refine zw_up (by unfold W_X7_lay; omega) hs (fun σ24 hσ24 => ?_)
  refine zw_ite ?_ ?_
  · refine zw_in (fun z2 => ?_)
    refine zw_let (fun y36 => ?_)
    refine zw_in (fun z3 => ?_)
    refine zw_up (by unfold W_X7_lay; omega) hσ24 (fun σ42 hσ42 => ?_)
    exact wL_X7_lay_150 σ0 a1 a2 a3 zfu x5 0 σ42  hσ42
  · exact zw_some hσ24
theorem wB_X7_lay_109 (σ0 : zg_S) (a1 : Int32) (a2 : Int32) (a3 : Int32) (x5 : Int32) (y0 : Int32) (y1 : Int32) (s : zg_S) (hs : wr (W_X7_lay) σ0 s) : zw (W_X7_lay) σ0 (B_X7_lay_109 a1 a2 a3 x5 y0 y1 s) := by
  unfold B_X7_lay_109
  refine zw_in (fun z1 => ?_)
  refine zw_up (by unfold W_X7_lay; omega) hs (fun σ53 hσ53 => ?_)
  refine zw_ite ?_ ?_
  · refine zw_call (w_X7_worth a3 σ53) (fun p k h => False.elim h) hσ53 (fun r62 σ63 hσ63 => ?_)
    exact wB_X7_lay_129 σ0 a1 a2 a3 x5 r62 a1 σ63  hσ63
  · exact wB_X7_lay_129 σ0 a1 a2 a3 x5 0 a1 σ53  hσ53
theorem wB_X7_lay_74 (σ0 : zg_S) (a1 : Int32) (a2 : Int32) (a3 : Int32) (s : zg_S) (hs : wr (W_X7_lay) σ0 s) : zw (W_X7_lay) σ0 (B_X7_lay_74 a1 a2 a3 s) := by
  unfold B_X7_lay_74
  refine zw_in (fun z1 => ?_)
  refine zw_up (by unfold W_X7_lay; omega) hs (fun σ74 hσ74 => ?_)
  refine zw_ite ?_ ?_
  · refine zw_call (w_X7_of a3 0 σ74) (fun p k h => False.elim h) hσ74 (fun r83 σ84 hσ84 => ?_)
    exact wB_X7_lay_109 σ0 a1 a2 a3 (s 7 (Int32.toNatClampNeg a1)) r83 a1 σ84  hσ84
  · exact wB_X7_lay_109 σ0 a1 a2 a3 (s 7 (Int32.toNatClampNeg a1)) a3 a1 σ74  hσ74
theorem wB_X7_lay_39 (σ0 : zg_S) (a1 : Int32) (a2 : Int32) (a3 : Int32) (y0 : Int32) (s : zg_S) (hs : wr (W_X7_lay) σ0 s) : zw (W_X7_lay) σ0 (B_X7_lay_39 a1 a2 a3 y0 s) := by
  unfold B_X7_lay_39
  refine zw_call (w_X7_isSlot a1 s) (fun p k h => False.elim h) hs (fun r92 σ93 hσ93 => ?_)
  refine zw_ite ?_ ?_
  · exact zw_some hσ93
  · refine zw_ite ?_ ?_
    · exact zw_some hσ93
    · refine zw_ite ?_ ?_
      · refine zw_in (fun z1 => ?_)
        refine zw_ite ?_ ?_
        · exact wB_X7_lay_74 σ0 a1 a2 a3 σ93  hσ93
        · exact zw_some hσ93
      · exact wB_X7_lay_74 σ0 a1 a2 a3 σ93  hσ93
theorem wB_X7_lay_34 (σ0 : zg_S) (a1 : Int32) (a2 : Int32) (a3 : Int32) (s : zg_S) (hs : wr (W_X7_lay) σ0 s) : zw (W_X7_lay) σ0 (B_X7_lay_34 a1 a2 a3 s) := by
  unfold B_X7_lay_34
  exact wB_X7_lay_39 σ0 a1 a2 a3 1 s  hs
theorem wB_X7_lay_38 (σ0 : zg_S) (a1 : Int32) (a2 : Int32) (a3 : Int32) (s : zg_S) (hs : wr (W_X7_lay) σ0 s) : zw (W_X7_lay) σ0 (B_X7_lay_38 a1 a2 a3 s) := by
  unfold B_X7_lay_38
  exact wB_X7_lay_39 σ0 a1 a2 a3 0 s  hs
theorem wB_X7_lay_22 (σ0 : zg_S) (a1 : Int32) (a2 : Int32) (a3 : Int32) (s : zg_S) (hs : wr (W_X7_lay) σ0 s) : zw (W_X7_lay) σ0 (B_X7_lay_22 a1 a2 a3 s) := by
  unfold B_X7_lay_22
  refine zw_ite ?_ ?_
  · refine zw_call (w_X7_isSheet a3 s) (fun p k h => False.elim h) hs (fun r117 σ118 hσ118 => ?_)
    refine zw_ite ?_ ?_
    · exact wB_X7_lay_38 σ0 a1 a2 a3 σ118  hσ118
    · exact wB_X7_lay_34 σ0 a1 a2 a3 σ118  hσ118
  · exact wB_X7_lay_38 σ0 a1 a2 a3 s  hs
theorem w_X7_lay (a1 : Int32) (a2 : Int32) (a3 : Int32) (σ0 : zg_S) : zw (W_X7_lay) σ0 (f_X7_lay a1 a2 a3 σ0) := by
  unfold f_X7_lay
  refine zw_ite ?_ ?_
  · exact wB_X7_lay_34 σ0 a1 a2 a3 σ0  wr.rf
  · refine zw_ite ?_ ?_
    · exact wB_X7_lay_34 σ0 a1 a2 a3 σ0  wr.rf
    · refine zw_ite ?_ ?_
      · refine zw_call (w_X7_isStall a3 σ0) (fun p k h => False.elim h) wr.rf (fun r136 σ137 hσ137 => ?_)
        refine zw_ite ?_ ?_
        · exact wB_X7_lay_22 σ0 a1 a2 a3 σ137  hσ137
        · exact wB_X7_lay_34 σ0 a1 a2 a3 σ137  hσ137
      · exact wB_X7_lay_22 σ0 a1 a2 a3 σ0  wr.rf
theorem wB_X7_mark_96 (σ0 : zg_S) (a1 : Int32) (a2 : Int32) (a3 : Int32) (s : zg_S) (hs : wr (W_X7_mark) σ0 s) : zw (W_X7_mark) σ0 (B_X7_mark_96 a1 a2 a3 s) := by
  unfold B_X7_mark_96
  refine zw_in (fun z1 => ?_)
  refine zw_ite ?_ ?_
  · refine zw_let (fun y16 => ?_)
    refine zw_in (fun z2 => ?_)
    refine zw_up (by unfold W_X7_mark; omega) hs (fun σ22 hσ22 => ?_)
    exact zw_some hσ22
  · refine zw_in (fun z3 => ?_)
    refine zw_up (by unfold W_X7_mark; omega) hs (fun σ9 hσ9 => ?_)
    exact zw_some hσ9
theorem wB_X7_mark_63 (σ0 : zg_S) (a1 : Int32) (a2 : Int32) (a3 : Int32) (s : zg_S) (hs : wr (W_X7_mark) σ0 s) : zw (W_X7_mark) σ0 (B_X7_mark_63 a1 a2 a3 s) := by
  unfold B_X7_mark_63
  refine zw_in (fun z1 => ?_)
  refine zw_ite ?_ ?_
  · refine zw_ite ?_ ?_
    · exact wB_X7_mark_96 σ0 a1 a2 a3 s  hs
    · refine zw_call (w_X7_isIn (Int32.toInt64 a3) (Int32.toInt64 (-99999)) (Int32.toInt64 99999) s) (fun p k h => False.elim h) hs (fun r37 σ38 hσ38 => ?_)
      refine zw_ite ?_ ?_
      · exact zw_some hσ38
      · exact wB_X7_mark_96 σ0 a1 a2 a3 σ38  hσ38
  · exact wB_X7_mark_96 σ0 a1 a2 a3 s  hs
theorem w_X7_mark (a1 : Int32) (a2 : Int32) (a3 : Int32) (σ0 : zg_S) : zw (W_X7_mark) σ0 (f_X7_mark a1 a2 a3 σ0) := by
  unfold f_X7_mark
  refine zw_call (w_X7_isSheet a1 σ0) (fun p k h => False.elim h) wr.rf (fun r47 σ48 hσ48 => ?_)
  refine zw_ite ?_ ?_
  · exact zw_some hσ48
  · refine zw_in (fun z1 => ?_)
    refine zw_ite ?_ ?_
    · refine zw_call (w_X7_isIn (Int32.toInt64 a2) (Int32.toInt64 0) (Int32.toInt64 ((σ48 5 (Int32.toNatClampNeg a1)) - 1)) σ48) (fun p k h => False.elim h) hσ48 (fun r61 σ62 hσ62 => ?_)
      refine zw_ite ?_ ?_
      · exact zw_some hσ62
      · refine zw_ite ?_ ?_
        · refine zw_ite ?_ ?_
          · exact zw_some hσ62
          · exact wB_X7_mark_63 σ0 a1 a2 a3 σ62  hσ62
        · exact wB_X7_mark_63 σ0 a1 a2 a3 σ62  hσ62
    · exact zw_some hσ48
theorem w_X7_mostOf (a1 : Int32) (σ0 : zg_S) : zw (W_X7_mostOf) σ0 (f_X7_mostOf a1 σ0) := by
  unfold f_X7_mostOf
  refine zw_ite ?_ ?_
  · exact zw_some wr.rf
  · refine zw_ite ?_ ?_
    · exact zw_some wr.rf
    · refine zw_ite ?_ ?_
      · exact zw_some wr.rf
      · exact zw_some wr.rf
theorem wB_X7_parse_111 (σ0 : zg_S) (x1 : Int32) (x2 : Int32) (s : zg_S) (hs : wr (W_X7_parse) σ0 s) : zw (W_X7_parse) σ0 (B_X7_parse_111 x1 x2 s) := by
  unfold B_X7_parse_111
  refine zw_up (by unfold W_X7_parse; omega) hs (fun σ1 hσ1 => ?_)
  refine zw_ite ?_ ?_
  · exact zw_some hσ1
  · exact zw_some hσ1
theorem wB_X7_parse_110 (σ0 : zg_S) (x1 : Int32) (y0 : Int32) (s : zg_S) (hs : wr (W_X7_parse) σ0 s) : zw (W_X7_parse) σ0 (B_X7_parse_110 x1 y0 s) := by
  unfold B_X7_parse_110
  exact wB_X7_parse_111 σ0 x1 y0 s  hs
theorem wB_X7_parse_109 (σ0 : zg_S) (x1 : Int32) (s : zg_S) (hs : wr (W_X7_parse) σ0 s) : zw (W_X7_parse) σ0 (B_X7_parse_109 x1 s) := by
  unfold B_X7_parse_109
  exact wB_X7_parse_110 σ0 x1 0 s  hs
theorem wB_X7_parse_81 (σ0 : zg_S) (x1 : Int32) (y0 : Int32) (s : zg_S) (hs : wr (W_X7_parse) σ0 s) : zw (W_X7_parse) σ0 (B_X7_parse_81 x1 y0 s) := by
  unfold B_X7_parse_81
  refine zw_ite ?_ ?_
  · exact wB_X7_parse_111 σ0 x1 y0 s  hs
  · refine zw_call (w_X7_nextToken s) (fun p k h => by unfold W_X7_nextToken at h; unfold W_X7_parse; omega) hs (fun r17 σ18 hσ18 => ?_)
    refine zw_call (w_G_mp 128 0 x1 σ18) (fun p k h => by unfold W_G_mp at h; unfold W_X7_parse; omega) hσ18 (fun r24 σ25 hσ25 => ?_)
    refine zw_ite ?_ ?_
    · exact wB_X7_parse_109 σ0 x1 σ25  hσ25
    · refine zw_ite ?_ ?_
      · exact wB_X7_parse_110 σ0 x1 1 σ25  hσ25
      · exact wB_X7_parse_109 σ0 x1 σ25  hσ25
theorem wB_X7_parse_60 (σ0 : zg_S) (y0 : Int32) (s : zg_S) (hs : wr (W_X7_parse) σ0 s) : zw (W_X7_parse) σ0 (B_X7_parse_60 y0 s) := by
  unfold B_X7_parse_60
  refine zw_up (by unfold W_X7_parse; omega) hs (fun σ37 hσ37 => ?_)
  refine zw_call (w_X7_nextToken σ37) (fun p k h => by unfold W_X7_nextToken at h; unfold W_X7_parse; omega) hσ37 (fun r43 σ44 hσ44 => ?_)
  refine zw_call (w_X7_key σ44) (fun p k h => False.elim h) hσ44 (fun r50 σ51 hσ51 => ?_)
  refine zw_ite ?_ ?_
  · exact wB_X7_parse_81 σ0 r50 0 σ51  hσ51
  · exact wB_X7_parse_81 σ0 r50 1 σ51  hσ51
theorem w_X7_parse  (σ0 : zg_S) : zw (W_X7_parse) σ0 (f_X7_parse  σ0) := by
  unfold f_X7_parse
  refine zw_up (by unfold W_X7_parse; omega) wr.rf (fun σ62 hσ62 => ?_)
  refine zw_up (by unfold W_X7_parse; omega) hσ62 (fun σ68 hσ68 => ?_)
  refine zw_up (by unfold W_X7_parse; omega) hσ68 (fun σ74 hσ74 => ?_)
  refine zw_up (by unfold W_X7_parse; omega) hσ74 (fun σ80 hσ80 => ?_)
  refine zw_up (by unfold W_X7_parse; omega) hσ80 (fun σ86 hσ86 => ?_)
  refine zw_up (by unfold W_X7_parse; omega) hσ86 (fun σ92 hσ92 => ?_)
  refine zw_ite ?_ ?_
  · exact wB_X7_parse_60 σ0 2847 σ92  hσ92
  · refine zw_call (w_X7_textAt (σ92 1 1) σ92) (fun p k h => False.elim h) hσ92 (fun r101 σ102 hσ102 => ?_)
    exact wB_X7_parse_60 σ0 (r101 + 4) σ102  hσ102
theorem wB_X7_pour_118 (σ0 : zg_S) (a1 : Int32) (rec27_ : Int32 → Int32 → zg_S → Option (Int32 × zg_S)) (x3 : Int32) (y0 : Int32) (y1 : Int32) (s : zg_S) (hrec27_ : ∀ (z0 : Int32) (z1 : Int32) (s : zg_S), wr (W_X7_pour) σ0 s → zw (W_X7_pour) σ0 (rec27_ z0 z1 s)) (hs : wr (W_X7_pour) σ0 s) : zw (W_X7_pour) σ0 (B_X7_pour_118 a1 rec27_ x3 y0 y1 s) := by
  unfold B_X7_pour_118
  exact hrec27_ (y1 + y0) (x3 + 1) s hs
theorem wB_X7_pour_91 (σ0 : zg_S) (a1 : Int32) (rec27_ : Int32 → Int32 → zg_S → Option (Int32 × zg_S)) (x2 : Int32) (x3 : Int32) (y0 : Int32) (s : zg_S) (hrec27_ : ∀ (z0 : Int32) (z1 : Int32) (s : zg_S), wr (W_X7_pour) σ0 s → zw (W_X7_pour) σ0 (rec27_ z0 z1 s)) (hs : wr (W_X7_pour) σ0 s) : zw (W_X7_pour) σ0 (B_X7_pour_91 a1 rec27_ x2 x3 y0 s) := by
  unfold B_X7_pour_91
  refine zw_call (w_X7_becomes ((11 + (4 * x3)) + 2) y0 s) (fun p k h => by unfold W_X7_becomes at h; unfold W_X7_pour; omega) hs (fun r7 σ8 hσ8 => ?_)
  refine zw_ite ?_ ?_
  · exact wB_X7_pour_118 σ0 a1 rec27_ x3 0 x2 σ8 hrec27_ hσ8
  · exact wB_X7_pour_118 σ0 a1 rec27_ x3 1 x2 σ8 hrec27_ hσ8
theorem wB_X7_pour_27 (σ0 : zg_S) (a1 : Int32) (rec27_ : Int32 → Int32 → zg_S → Option (Int32 × zg_S)) (x2 : Int32) (x3 : Int32) (s : zg_S) (hrec27_ : ∀ (z0 : Int32) (z1 : Int32) (s : zg_S), wr (W_X7_pour) σ0 s → zw (W_X7_pour) σ0 (rec27_ z0 z1 s)) (hs : wr (W_X7_pour) σ0 s) : zw (W_X7_pour) σ0 (B_X7_pour_27 a1 rec27_ x2 x3 s) := by
  unfold B_X7_pour_27
  refine zw_in (fun z1 => ?_)
  refine zw_ite ?_ ?_
  · exact zw_some hs
  · refine zw_ite ?_ ?_
    · exact zw_some hs
    · refine zw_in (fun z2 => ?_)
      refine zw_let (fun y29 => ?_)
      refine zw_ite ?_ ?_
      · refine zw_in (fun z3 => ?_)
        exact wB_X7_pour_91 σ0 a1 rec27_ x2 x3 (s 1 (Int32.toNatClampNeg ((11 + (4 * x3)) + 2))) s hrec27_ hs
      · refine zw_call (w_X7_within y29 999 s) (fun p k h => False.elim h) hs (fun r36 σ37 hσ37 => ?_)
        exact wB_X7_pour_91 σ0 a1 rec27_ x2 x3 r36 σ37 hrec27_ hσ37
theorem wL_X7_pour_27 (σ0 : zg_S) (a1 : Int32) (n : Nat) (x2 : Int32) (x3 : Int32) (s : zg_S) (hs : wr (W_X7_pour) σ0 s) : zw (W_X7_pour) σ0 (L_X7_pour_27 a1 n x2 x3 s) := by
  unfold L_X7_pour_27
  exact zwf_II (fun r hr x2 x3 t ht => wB_X7_pour_27 σ0 a1 r x2 x3 t hr ht) n x2 x3 s hs
theorem w_X7_pour (a1 : Int32) (σ0 : zg_S) : zw (W_X7_pour) σ0 (f_X7_pour a1 σ0) := by
  unfold f_X7_pour
  refine zw_call (w_X7_isSheet a1 σ0) (fun p k h => False.elim h) wr.rf (fun r47 σ48 hσ48 => ?_)
  refine zw_ite ?_ ?_
  · exact zw_some hσ48
  · refine zw_in (fun z1 => ?_)
    refine zw_ite ?_ ?_
    · exact wL_X7_pour_27 σ0 a1 zfu 0 0 σ48  hσ48
    · exact zw_some hσ48
theorem wB_X7_reads_74 (σ0 : zg_S) (a1 : Int32) (rec25_ : Int32 → zg_S → Option (Int32 × zg_S)) (x2 : Int32) (s : zg_S) (hrec25_ : ∀ (z0 : Int32) (s : zg_S), wr (W_X7_reads) σ0 s → zw (W_X7_reads) σ0 (rec25_ z0 s)) (hs : wr (W_X7_reads) σ0 s) : zw (W_X7_reads) σ0 (B_X7_reads_74 a1 rec25_ x2 s) := by
  unfold B_X7_reads_74
  exact hrec25_ (x2 + 1) s hs
theorem wB_X7_reads_25 (σ0 : zg_S) (a1 : Int32) (rec25_ : Int32 → zg_S → Option (Int32 × zg_S)) (x2 : Int32) (s : zg_S) (hrec25_ : ∀ (z0 : Int32) (s : zg_S), wr (W_X7_reads) σ0 s → zw (W_X7_reads) σ0 (rec25_ z0 s)) (hs : wr (W_X7_reads) σ0 s) : zw (W_X7_reads) σ0 (B_X7_reads_25 a1 rec25_ x2 s) := by
  unfold B_X7_reads_25
  refine zw_in (fun z1 => ?_)
  refine zw_ite ?_ ?_
  · exact zw_some hs
  · refine zw_in (fun z2 => ?_)
    refine zw_let (fun y12 => ?_)
    refine zw_ite ?_ ?_
    · exact wB_X7_reads_74 σ0 a1 rec25_ x2 s hrec25_ hs
    · refine zw_ite ?_ ?_
      · exact zw_some hs
      · refine zw_call (w_X7_spoils x2 s) (fun p k h => by unfold W_X7_spoils at h; unfold W_X7_reads; omega) hs (fun r23 σ24 hσ24 => ?_)
        refine zw_ite ?_ ?_
        · exact wB_X7_reads_74 σ0 a1 rec25_ x2 σ24 hrec25_ hσ24
        · exact zw_some hσ24
theorem wL_X7_reads_25 (σ0 : zg_S) (a1 : Int32) (n : Nat) (x2 : Int32) (s : zg_S) (hs : wr (W_X7_reads) σ0 s) : zw (W_X7_reads) σ0 (L_X7_reads_25 a1 n x2 s) := by
  unfold L_X7_reads_25
  exact zwf_I (fun r hr x2 t ht => wB_X7_reads_25 σ0 a1 r x2 t hr ht) n x2 s hs
theorem w_X7_reads (a1 : Int32) (σ0 : zg_S) : zw (W_X7_reads) σ0 (f_X7_reads a1 σ0) := by
  unfold f_X7_reads
  refine zw_call (w_X7_isSheet a1 σ0) (fun p k h => False.elim h) wr.rf (fun r33 σ34 hσ34 => ?_)
  refine zw_ite ?_ ?_
  · exact zw_some hσ34
  · refine zw_in (fun z1 => ?_)
    refine zw_ite ?_ ?_
    · exact wL_X7_reads_25 σ0 a1 zfu 0 σ34  hσ34
    · exact zw_some hσ34
theorem w_X7_rest (a1 : Int32) (a2 : Int32) (σ0 : zg_S) : zw (W_X7_rest) σ0 (f_X7_rest a1 a2 σ0) := by
  unfold f_X7_rest
  refine zw_call (w_X7_isSlot a1 σ0) (fun p k h => False.elim h) wr.rf (fun r1 σ2 hσ2 => ?_)
  refine zw_ite ?_ ?_
  · exact zw_some hσ2
  · refine zw_in (fun z1 => ?_)
    refine zw_ite ?_ ?_
    · refine zw_ite ?_ ?_
      · exact zw_some hσ2
      · refine zw_ite zw_none ?_
        exact zw_some hσ2
    · refine zw_ite ?_ ?_
      · exact zw_some hσ2
      · exact zw_some hσ2
theorem wB_X7_rule_24 (σ0 : zg_S) (a1 : Int32) (a2 : Int32) (y0 : Int64) (y1 : Int64) (s : zg_S) (hs : wr (W_X7_rule) σ0 s) : zw (W_X7_rule) σ0 (B_X7_rule_24 a1 a2 y0 y1 s) := by
  unfold B_X7_rule_24
  refine zw_call (w_X7_mostOf a1 s) (fun p k h => False.elim h) hs (fun r1 σ2 hσ2 => ?_)
  refine zw_call (w_X7_isIn y1 y0 (Int32.toInt64 r1) σ2) (fun p k h => False.elim h) hσ2 (fun r8 σ9 hσ9 => ?_)
  refine zw_ite ?_ ?_
  · exact zw_some hσ9
  · refine zw_call (w_X7_becomes (7 + a1) a2 σ9) (fun p k h => by unfold W_X7_becomes at h; unfold W_X7_rule; omega) hσ9 (fun r17 σ18 hσ18 => ?_)
    refine zw_call (w_X7_holds σ18) (fun p k h => by unfold W_X7_holds at h; unfold W_X7_rule; omega) hσ18 (fun r26 σ27 hσ27 => ?_)
    exact zw_some hσ27
theorem w_X7_rule (a1 : Int32) (a2 : Int32) (σ0 : zg_S) : zw (W_X7_rule) σ0 (f_X7_rule a1 a2 σ0) := by
  unfold f_X7_rule
  refine zw_call (w_X7_isIn (Int32.toInt64 a1) (Int32.toInt64 0) (Int32.toInt64 3) σ0) (fun p k h => False.elim h) wr.rf (fun r34 σ35 hσ35 => ?_)
  refine zw_ite ?_ ?_
  · exact zw_some hσ35
  · refine zw_ite ?_ ?_
    · exact wB_X7_rule_24 σ0 a1 a2 (Int32.toInt64 1) (Int32.toInt64 a2) σ35  hσ35
    · exact wB_X7_rule_24 σ0 a1 a2 (Int32.toInt64 0) (Int32.toInt64 a2) σ35  hσ35
theorem w_X7_seed (a1 : Int32) (σ0 : zg_S) : zw (W_X7_seed) σ0 (f_X7_seed a1 σ0) := by
  unfold f_X7_seed
  refine zw_call (w_X7_becomes 6 a1 σ0) (fun p k h => by unfold W_X7_becomes at h; unfold W_X7_seed; omega) wr.rf (fun r1 σ2 hσ2 => ?_)
  exact zw_some hσ2
theorem wB_X7_set_48 (σ0 : zg_S) (a1 : Int32) (a2 : Int32) (a3 : Int32) (y0 : Int64) (y1 : Int64) (y2 : Int64) (s : zg_S) (hs : wr (W_X7_set) σ0 s) : zw (W_X7_set) σ0 (B_X7_set_48 a1 a2 a3 y0 y1 y2 s) := by
  unfold B_X7_set_48
  refine zw_call (w_X7_isIn y2 y1 y0 s) (fun p k h => False.elim h) hs (fun r1 σ2 hσ2 => ?_)
  refine zw_ite ?_ ?_
  · exact zw_some hσ2
  · refine zw_call (w_X7_becomes ((11 + (4 * a1)) + a2) a3 σ2) (fun p k h => by unfold W_X7_becomes at h; unfold W_X7_set; omega) hσ2 (fun r10 σ11 hσ11 => ?_)
    exact zw_some hσ11
theorem w_X7_set (a1 : Int32) (a2 : Int32) (a3 : Int32) (σ0 : zg_S) : zw (W_X7_set) σ0 (f_X7_set a1 a2 a3 σ0) := by
  unfold f_X7_set
  refine zw_call (w_X7_isStall a1 σ0) (fun p k h => False.elim h) wr.rf (fun r18 σ19 hσ19 => ?_)
  refine zw_ite ?_ ?_
  · exact zw_some hσ19
  · refine zw_call (w_X7_isIn (Int32.toInt64 a2) (Int32.toInt64 1) (Int32.toInt64 3) σ19) (fun p k h => False.elim h) hσ19 (fun r28 σ29 hσ29 => ?_)
    refine zw_ite ?_ ?_
    · exact zw_some hσ29
    · refine zw_ite ?_ ?_
      · exact wB_X7_set_48 σ0 a1 a2 a3 (Int32.toInt64 11) (Int32.toInt64 0) (Int32.toInt64 a3) σ29  hσ29
      · refine zw_ite ?_ ?_
        · exact wB_X7_set_48 σ0 a1 a2 a3 (Int32.toInt64 999) (Int32.toInt64 0) (Int32.toInt64 a3) σ29  hσ29
        · exact wB_X7_set_48 σ0 a1 a2 a3 (Int32.toInt64 99) (Int32.toInt64 0) (Int32.toInt64 a3) σ29  hσ29
end
section
theorem wB_X7_shaded_83 (σ0 : zg_S) (a1 : Int32) (a2 : Int32) (rec32_ : Int32 → Int32 → zg_S → Option (Int32 × zg_S)) (x4 : Int32) (x5 : Int32) (x6 : Int32) (y0 : Int32) (y1 : Int32) (s : zg_S) (hrec32_ : ∀ (z0 : Int32) (z1 : Int32) (s : zg_S), wr (W_X7_shaded) σ0 s → zw (W_X7_shaded) σ0 (rec32_ z0 z1 s)) (hs : wr (W_X7_shaded) σ0 s) : zw (W_X7_shaded) σ0 (B_X7_shaded_83 a1 a2 rec32_ x4 x5 x6 y0 y1 s) := by
  unfold B_X7_shaded_83
  refine zw_up (by unfold W_X7_shaded; omega) hs (fun σ3 hσ3 => ?_)
  refine zw_call (w_X7_goesOnBy x6 σ3) (fun p k h => by unfold W_X7_goesOnBy at h; unfold W_X7_shaded; omega) hσ3 (fun r9 σ10 hσ10 => ?_)
  exact hrec32_ (y1 + y0) (x4 + 1) σ10 hσ10
theorem wB_X7_shaded_32 (σ0 : zg_S) (a1 : Int32) (a2 : Int32) (rec32_ : Int32 → Int32 → zg_S → Option (Int32 × zg_S)) (x3 : Int32) (x4 : Int32) (s : zg_S) (hrec32_ : ∀ (z0 : Int32) (z1 : Int32) (s : zg_S), wr (W_X7_shaded) σ0 s → zw (W_X7_shaded) σ0 (rec32_ z0 z1 s)) (hs : wr (W_X7_shaded) σ0 s) : zw (W_X7_shaded) σ0 (B_X7_shaded_32 a1 a2 rec32_ x3 x4 s) := by
  unfold B_X7_shaded_32
  refine zw_ite ?_ ?_
  · refine zw_call (w_X7_laysBack s) (fun p k h => by unfold W_X7_laysBack at h; unfold W_X7_shaded; omega) hs (fun r20 σ21 hσ21 => ?_)
    exact zw_some hσ21
  · refine zw_call (w_X7_hauls s) (fun p k h => by unfold W_X7_hauls at h; unfold W_X7_shaded; omega) hs (fun r30 σ31 hσ31 => ?_)
    refine zw_up (by unfold W_X7_shaded; omega) hσ31 (fun σ39 hσ39 => ?_)
    refine zw_call (w_X7_holds σ39) (fun p k h => by unfold W_X7_holds at h; unfold W_X7_shaded; omega) hσ39 (fun r45 σ46 hσ46 => ?_)
    refine zw_call (w_X7_isShaded a1 σ46) (fun p k h => False.elim h) hσ46 (fun r52 σ53 hσ53 => ?_)
    refine zw_ite ?_ ?_
    · exact wB_X7_shaded_83 σ0 a1 a2 rec32_ x4 (s 1 7) r30 0 x3 σ53 hrec32_ hσ53
    · exact wB_X7_shaded_83 σ0 a1 a2 rec32_ x4 (s 1 7) r30 1 x3 σ53 hrec32_ hσ53
theorem wL_X7_shaded_32 (σ0 : zg_S) (a1 : Int32) (a2 : Int32) (n : Nat) (x3 : Int32) (x4 : Int32) (s : zg_S) (hs : wr (W_X7_shaded) σ0 s) : zw (W_X7_shaded) σ0 (L_X7_shaded_32 a1 a2 n x3 x4 s) := by
  unfold L_X7_shaded_32
  exact zwf_II (fun r hr x3 x4 t ht => wB_X7_shaded_32 σ0 a1 a2 r x3 x4 t hr ht) n x3 x4 s hs
theorem w_X7_shaded (a1 : Int32) (a2 : Int32) (σ0 : zg_S) : zw (W_X7_shaded) σ0 (f_X7_shaded a1 a2 σ0) := by
  unfold f_X7_shaded
  refine zw_call (w_X7_isStall a1 σ0) (fun p k h => False.elim h) wr.rf (fun r62 σ63 hσ63 => ?_)
  refine zw_ite ?_ ?_
  · exact zw_some hσ63
  · refine zw_call (w_X7_isIn (Int32.toInt64 a2) (Int32.toInt64 1) (Int32.toInt64 60) σ63) (fun p k h => False.elim h) hσ63 (fun r72 σ73 hσ73 => ?_)
    refine zw_ite ?_ ?_
    · exact zw_some hσ73
    · refine zw_call (w_X7_laysBy σ73) (fun p k h => by unfold W_X7_laysBy at h; unfold W_X7_shaded; omega) hσ73 (fun r81 σ82 hσ82 => ?_)
      exact wL_X7_shaded_32 σ0 a1 a2 zfu 0 0 σ82  hσ82
theorem wB_X7_sheet_69 (σ0 : zg_S) (a1 : Int32) (a2 : Int32) (a3 : Int32) (rec69_ : Int32 → zg_S → Option (Int32 × zg_S)) (x4 : Int32) (s : zg_S) (hrec69_ : ∀ (z0 : Int32) (s : zg_S), wr (W_X7_sheet) σ0 s → zw (W_X7_sheet) σ0 (rec69_ z0 s)) (hs : wr (W_X7_sheet) σ0 s) : zw (W_X7_sheet) σ0 (B_X7_sheet_69 a1 a2 a3 rec69_ x4 s) := by
  unfold B_X7_sheet_69
  refine zw_ite ?_ ?_
  · refine zw_in (fun z1 => ?_)
    exact zw_some hs
  · refine zw_in (fun z2 => ?_)
    refine zw_up (by unfold W_X7_sheet; omega) hs (fun σ10 hσ10 => ?_)
    exact hrec69_ (x4 + 1) σ10 hσ10
theorem wL_X7_sheet_69 (σ0 : zg_S) (a1 : Int32) (a2 : Int32) (a3 : Int32) (n : Nat) (x4 : Int32) (s : zg_S) (hs : wr (W_X7_sheet) σ0 s) : zw (W_X7_sheet) σ0 (L_X7_sheet_69 a1 a2 a3 n x4 s) := by
  unfold L_X7_sheet_69
  exact zwf_I (fun r hr x4 t ht => wB_X7_sheet_69 σ0 a1 a2 a3 r x4 t hr ht) n x4 s hs
theorem wB_X7_sheet_65 (σ0 : zg_S) (a1 : Int32) (a2 : Int32) (a3 : Int32) (y0 : Int32) (y1 : Int32) (s : zg_S) (hs : wr (W_X7_sheet) σ0 s) : zw (W_X7_sheet) σ0 (B_X7_sheet_65 a1 a2 a3 y0 y1 s) := by
  unfold B_X7_sheet_65
  refine zw_in (fun z1 => ?_)
  refine zw_up (by unfold W_X7_sheet; omega) hs (fun σ21 hσ21 => ?_)
  exact wL_X7_sheet_69 σ0 a1 a2 a3 zfu 0 σ21  hσ21
theorem wB_X7_sheet_44 (σ0 : zg_S) (a1 : Int32) (a2 : Int32) (a3 : Int32) (s : zg_S) (hs : wr (W_X7_sheet) σ0 s) : zw (W_X7_sheet) σ0 (B_X7_sheet_44 a1 a2 a3 s) := by
  unfold B_X7_sheet_44
  refine zw_in (fun z1 => ?_)
  refine zw_up (by unfold W_X7_sheet; omega) hs (fun σ32 hσ32 => ?_)
  refine zw_ite ?_ ?_
  · exact wB_X7_sheet_65 σ0 a1 a2 a3 a3 a1 σ32  hσ32
  · exact wB_X7_sheet_65 σ0 a1 a2 a3 0 a1 σ32  hσ32
theorem wB_X7_sheet_32 (σ0 : zg_S) (a1 : Int32) (a2 : Int32) (a3 : Int32) (s : zg_S) (hs : wr (W_X7_sheet) σ0 s) : zw (W_X7_sheet) σ0 (B_X7_sheet_32 a1 a2 a3 s) := by
  unfold B_X7_sheet_32
  refine zw_ite ?_ ?_
  · exact wB_X7_sheet_44 σ0 a1 a2 a3 s  hs
  · refine zw_ite ?_ ?_
    · exact wB_X7_sheet_44 σ0 a1 a2 a3 s  hs
    · exact zw_some hs
theorem w_X7_sheet (a1 : Int32) (a2 : Int32) (a3 : Int32) (σ0 : zg_S) : zw (W_X7_sheet) σ0 (f_X7_sheet a1 a2 a3 σ0) := by
  unfold f_X7_sheet
  refine zw_call (w_X7_isSheet a1 σ0) (fun p k h => False.elim h) wr.rf (fun r47 σ48 hσ48 => ?_)
  refine zw_ite ?_ ?_
  · exact zw_some hσ48
  · refine zw_call (w_X7_isIn (Int32.toInt64 a2) (Int32.toInt64 (-1)) (Int32.toInt64 1) σ48) (fun p k h => False.elim h) hσ48 (fun r57 σ58 hσ58 => ?_)
    refine zw_ite ?_ ?_
    · exact zw_some hσ58
    · refine zw_ite ?_ ?_
      · exact wB_X7_sheet_32 σ0 a1 a2 a3 σ58  hσ58
      · refine zw_ite ?_ ?_
        · exact wB_X7_sheet_32 σ0 a1 a2 a3 σ58  hσ58
        · exact zw_some hσ58
theorem w_X7_stall (a1 : Int32) (a2 : Int32) (a3 : Int32) (σ0 : zg_S) : zw (W_X7_stall) σ0 (f_X7_stall a1 a2 a3 σ0) := by
  unfold f_X7_stall
  refine zw_call (w_X7_isIn (Int32.toInt64 a1) (Int32.toInt64 0) (Int32.toInt64 5) σ0) (fun p k h => False.elim h) wr.rf (fun r1 σ2 hσ2 => ?_)
  refine zw_ite ?_ ?_
  · exact zw_some hσ2
  · refine zw_call (w_X7_isIn (Int32.toInt64 a2) (Int32.toInt64 0) (Int32.toInt64 11) σ2) (fun p k h => False.elim h) hσ2 (fun r11 σ12 hσ12 => ?_)
    refine zw_ite ?_ ?_
    · exact zw_some hσ12
    · refine zw_call (w_X7_isIn (Int32.toInt64 a3) (Int32.toInt64 0) (Int32.toInt64 99) σ12) (fun p k h => False.elim h) hσ12 (fun r21 σ22 hσ22 => ?_)
      refine zw_ite ?_ ?_
      · exact zw_some hσ22
      · refine zw_ite ?_ ?_
        · exact zw_some hσ22
        · refine zw_call (w_X7_comes a1 a2 a3 σ22) (fun p k h => by unfold W_X7_comes at h; unfold W_X7_stall; omega) hσ22 (fun r32 σ33 hσ33 => ?_)
          exact zw_some hσ33
theorem w_X7_tell (a1 : Int32) (σ0 : zg_S) : zw (W_X7_tell) σ0 (f_X7_tell a1 σ0) := by
  unfold f_X7_tell
  refine zw_ite ?_ ?_
  · exact zw_some wr.rf
  · refine zw_in (fun z1 => ?_)
    refine zw_up (by unfold W_X7_tell; omega) wr.rf (fun σ6 hσ6 => ?_)
    refine zw_up (by unfold W_X7_tell; omega) hσ6 (fun σ12 hσ12 => ?_)
    exact zw_some hσ12
theorem w_X7_text  (σ0 : zg_S) : zw (W_X7_text) σ0 (f_X7_text  σ0) := by
  unfold f_X7_text
  refine zw_call (w_X7_parse σ0) (fun p k h => by unfold W_X7_parse at h; unfold W_X7_text; omega) wr.rf (fun r1 σ2 hσ2 => ?_)
  refine zw_ite ?_ ?_
  · refine zw_ite ?_ ?_
    · exact zw_some hσ2
    · refine zw_call (w_X7_textAt (σ2 1 1) σ2) (fun p k h => False.elim h) hσ2 (fun r14 σ15 hσ15 => ?_)
      refine zw_in (fun z1 => ?_)
      refine zw_up (by unfold W_X7_text; omega) hσ15 (fun σ26 hσ26 => ?_)
      refine zw_in (fun z2 => ?_)
      refine zw_up (by unfold W_X7_text; omega) hσ26 (fun σ35 hσ35 => ?_)
      refine zw_in (fun z3 => ?_)
      refine zw_up (by unfold W_X7_text; omega) hσ35 (fun σ44 hσ44 => ?_)
      refine zw_up (by unfold W_X7_text; omega) hσ44 (fun σ50 hσ50 => ?_)
      exact zw_some hσ50
  · exact zw_some hσ2
theorem w_X7_textTold (a1 : Int32) (a2 : Int32) (σ0 : zg_S) : zw (W_X7_textTold) σ0 (f_X7_textTold a1 a2 σ0) := by
  unfold f_X7_textTold
  refine zw_call (w_X7_isText a1 σ0) (fun p k h => False.elim h) wr.rf (fun r1 σ2 hσ2 => ?_)
  refine zw_ite ?_ ?_
  · exact zw_some hσ2
  · refine zw_call (w_X7_isIn (Int32.toInt64 a2) (Int32.toInt64 0) (Int32.toInt64 1) σ2) (fun p k h => False.elim h) hσ2 (fun r11 σ12 hσ12 => ?_)
    refine zw_ite ?_ ?_
    · exact zw_some hσ12
    · refine zw_call (w_X7_textAt a1 σ12) (fun p k h => False.elim h) hσ12 (fun r20 σ21 hσ21 => ?_)
      refine zw_in (fun z1 => ?_)
      exact zw_some hσ21
theorem wB_X7_told_56 (σ0 : zg_S) (a1 : Int32) (a2 : Int32) (s : zg_S) (hs : wr (W_X7_told) σ0 s) : zw (W_X7_told) σ0 (B_X7_told_56 a1 a2 s) := by
  unfold B_X7_told_56
  refine zw_call (w_X7_of a1 a2 s) (fun p k h => False.elim h) hs (fun r1 σ2 hσ2 => ?_)
  exact zw_some hσ2
theorem w_X7_told (a1 : Int32) (a2 : Int32) (σ0 : zg_S) : zw (W_X7_told) σ0 (f_X7_told a1 a2 σ0) := by
  unfold f_X7_told
  refine zw_call (w_X7_isStall a1 σ0) (fun p k h => False.elim h) wr.rf (fun r8 σ9 hσ9 => ?_)
  refine zw_ite ?_ ?_
  · exact zw_some hσ9
  · refine zw_ite ?_ ?_
    · exact wB_X7_told_56 σ0 a1 a2 σ9  hσ9
    · refine zw_ite ?_ ?_
      · exact wB_X7_told_56 σ0 a1 a2 σ9  hσ9
      · refine zw_ite ?_ ?_
        · exact wB_X7_told_56 σ0 a1 a2 σ9  hσ9
        · refine zw_ite ?_ ?_
          · exact wB_X7_told_56 σ0 a1 a2 σ9  hσ9
          · refine zw_ite ?_ ?_
            · refine zw_call (w_X7_spoils a1 σ9) (fun p k h => by unfold W_X7_spoils at h; unfold W_X7_told; omega) hσ9 (fun r31 σ32 hσ32 => ?_)
              exact zw_some hσ32
            · refine zw_ite ?_ ?_
              · refine zw_call (w_X7_isShaded a1 σ9) (fun p k h => False.elim h) hσ9 (fun r41 σ42 hσ42 => ?_)
                refine zw_ite ?_ ?_
                · exact zw_some hσ42
                · exact zw_some hσ42
              · refine zw_ite ?_ ?_
                · refine zw_call (w_X7_worth a1 σ9) (fun p k h => False.elim h) hσ9 (fun r54 σ55 hσ55 => ?_)
                  exact zw_some hσ55
                · exact zw_some hσ9
theorem w_X7_trim (a1 : Int32) (σ0 : zg_S) : zw (W_X7_trim) σ0 (f_X7_trim a1 σ0) := by
  unfold f_X7_trim
  refine zw_call (w_X7_isIn (Int32.toInt64 a1) (Int32.toInt64 0) (Int32.toInt64 (σ0 0 14)) σ0) (fun p k h => False.elim h) wr.rf (fun r1 σ2 hσ2 => ?_)
  refine zw_ite ?_ ?_
  · exact zw_some hσ2
  · refine zw_up (by unfold W_X7_trim; omega) hσ2 (fun σ10 hσ10 => ?_)
    exact zw_some hσ10
theorem w_X7_turns (a1 : Int32) (a2 : Int32) (σ0 : zg_S) : zw (W_X7_turns) σ0 (f_X7_turns a1 a2 σ0) := by
  unfold f_X7_turns
  refine zw_call (w_X7_isStall a1 σ0) (fun p k h => False.elim h) wr.rf (fun r1 σ2 hσ2 => ?_)
  refine zw_ite ?_ ?_
  · exact zw_some hσ2
  · refine zw_call (w_X7_isIn (Int32.toInt64 a2) (Int32.toInt64 0) (Int32.toInt64 5) σ2) (fun p k h => False.elim h) hσ2 (fun r11 σ12 hσ12 => ?_)
    refine zw_ite ?_ ?_
    · exact zw_some hσ12
    · refine zw_call (w_X7_becomes (11 + (4 * a1)) a2 σ12) (fun p k h => by unfold W_X7_becomes at h; unfold W_X7_turns; omega) hσ12 (fun r21 σ22 hσ22 => ?_)
      exact zw_some hσ22
theorem wB_X7_whose_182 (σ0 : zg_S) (a1 : Int32) (a2 : Int32) (a3 : Int32) (rec58_ : Int32 → Int32 → Int32 → zg_S → Option (Int32 × zg_S)) (x4 : Int32) (x5 : Int32) (x6 : Int32) (s : zg_S) (hrec58_ : ∀ (z0 : Int32) (z1 : Int32) (z2 : Int32) (s : zg_S), wr (W_X7_whose) σ0 s → zw (W_X7_whose) σ0 (rec58_ z0 z1 z2 s)) (hs : wr (W_X7_whose) σ0 s) : zw (W_X7_whose) σ0 (B_X7_whose_182 a1 a2 a3 rec58_ x4 x5 x6 s) := by
  unfold B_X7_whose_182
  exact hrec58_ x4 x5 (x6 + 1) s hs
theorem wB_X7_whose_174 (σ0 : zg_S) (a1 : Int32) (a2 : Int32) (a3 : Int32) (rec58_ : Int32 → Int32 → Int32 → zg_S → Option (Int32 × zg_S)) (x6 : Int32) (x7 : Int32) (s : zg_S) (hrec58_ : ∀ (z0 : Int32) (z1 : Int32) (z2 : Int32) (s : zg_S), wr (W_X7_whose) σ0 s → zw (W_X7_whose) σ0 (rec58_ z0 z1 z2 s)) (hs : wr (W_X7_whose) σ0 s) : zw (W_X7_whose) σ0 (B_X7_whose_174 a1 a2 a3 rec58_ x6 x7 s) := by
  unfold B_X7_whose_174
  exact wB_X7_whose_182 σ0 a1 a2 a3 rec58_ x6 x7 x6 s hrec58_ hs
theorem wB_X7_whose_149 (σ0 : zg_S) (a1 : Int32) (a2 : Int32) (a3 : Int32) (rec84_ : Int32 → Int32 → Int32 → Int32 → Int32 → zg_S → Option (Int32 × zg_S)) (x4 : Int32) (x5 : Int32) (x6 : Int32) (x8 : Int32) (y0 : Int32) (y1 : Int32) (s : zg_S) (hrec84_ : ∀ (z0 : Int32) (z1 : Int32) (z2 : Int32) (z3 : Int32) (z4 : Int32) (s : zg_S), wr (W_X7_whose) σ0 s → zw (W_X7_whose) σ0 (rec84_ z0 z1 z2 z3 z4 s)) (hs : wr (W_X7_whose) σ0 s) : zw (W_X7_whose) σ0 (B_X7_whose_149 a1 a2 a3 rec84_ x4 x5 x6 x8 y0 y1 s) := by
  unfold B_X7_whose_149
  exact hrec84_ x4 x5 x6 (y1 + y0) (x8 + 1) s hs
theorem wB_X7_whose_146 (σ0 : zg_S) (a1 : Int32) (a2 : Int32) (a3 : Int32) (rec84_ : Int32 → Int32 → Int32 → Int32 → Int32 → zg_S → Option (Int32 × zg_S)) (x4 : Int32) (x5 : Int32) (x6 : Int32) (x8 : Int32) (y0 : Int32) (y1 : Int32) (y2 : Int32) (s : zg_S) (hrec84_ : ∀ (z0 : Int32) (z1 : Int32) (z2 : Int32) (z3 : Int32) (z4 : Int32) (s : zg_S), wr (W_X7_whose) σ0 s → zw (W_X7_whose) σ0 (rec84_ z0 z1 z2 z3 z4 s)) (hs : wr (W_X7_whose) σ0 s) : zw (W_X7_whose) σ0 (B_X7_whose_146 a1 a2 a3 rec84_ x4 x5 x6 x8 y0 y1 y2 s) := by
  unfold B_X7_whose_146
  refine zw_call (w_X7_off y1 y0 s) (fun p k h => False.elim h) hs (fun r11 σ12 hσ12 => ?_)
  exact wB_X7_whose_149 σ0 a1 a2 a3 rec84_ x4 x5 x6 x8 r11 y2 σ12 hrec84_ hσ12
theorem wB_X7_whose_84 (σ0 : zg_S) (a1 : Int32) (a2 : Int32) (a3 : Int32) (rec58_ : Int32 → Int32 → Int32 → zg_S → Option (Int32 × zg_S)) (rec84_ : Int32 → Int32 → Int32 → Int32 → Int32 → zg_S → Option (Int32 × zg_S)) (x4 : Int32) (x5 : Int32) (x6 : Int32) (x7 : Int32) (x8 : Int32) (s : zg_S) (hrec58_ : ∀ (z0 : Int32) (z1 : Int32) (z2 : Int32) (s : zg_S), wr (W_X7_whose) σ0 s → zw (W_X7_whose) σ0 (rec58_ z0 z1 z2 s)) (hrec84_ : ∀ (z0 : Int32) (z1 : Int32) (z2 : Int32) (z3 : Int32) (z4 : Int32) (s : zg_S), wr (W_X7_whose) σ0 s → zw (W_X7_whose) σ0 (rec84_ z0 z1 z2 z3 z4 s)) (hs : wr (W_X7_whose) σ0 s) : zw (W_X7_whose) σ0 (B_X7_whose_84 a1 a2 a3 rec58_ rec84_ x4 x5 x6 x7 x8 s) := by
  unfold B_X7_whose_84
  refine zw_in (fun z1 => ?_)
  refine zw_ite ?_ ?_
  · refine zw_call (w_X7_laysBack s) (fun p k h => by unfold W_X7_laysBack at h; unfold W_X7_whose; omega) hs (fun r23 σ24 hσ24 => ?_)
    refine zw_ite ?_ ?_
    · exact wB_X7_whose_174 σ0 a1 a2 a3 rec58_ x6 x7 σ24 hrec58_ hσ24
    · refine zw_ite ?_ ?_
      · exact wB_X7_whose_182 σ0 a1 a2 a3 rec58_ x4 x5 x6 σ24 hrec58_ hσ24
      · exact wB_X7_whose_174 σ0 a1 a2 a3 rec58_ x6 x7 σ24 hrec58_ hσ24
  · refine zw_in (fun z2 => ?_)
    refine zw_let (fun y40 => ?_)
    refine zw_ite ?_ ?_
    · exact wB_X7_whose_149 σ0 a1 a2 a3 rec84_ x4 x5 x6 x8 0 x7 s hrec84_ hs
    · refine zw_ite ?_ ?_
      · exact wB_X7_whose_146 σ0 a1 a2 a3 rec84_ x4 x5 x6 x8 0 y40 x7 s hrec84_ hs
      · refine zw_call (w_X7_of x8 2 s) (fun p k h => False.elim h) hs (fun r50 σ51 hσ51 => ?_)
        exact wB_X7_whose_146 σ0 a1 a2 a3 rec84_ x4 x5 x6 x8 r50 y40 x7 σ51 hrec84_ hσ51
theorem wL_X7_whose_84 (σ0 : zg_S) (a1 : Int32) (a2 : Int32) (a3 : Int32) (rec58_ : Int32 → Int32 → Int32 → zg_S → Option (Int32 × zg_S)) (n : Nat) (x4 : Int32) (x5 : Int32) (x6 : Int32) (x7 : Int32) (x8 : Int32) (s : zg_S) (hrec58_ : ∀ (z0 : Int32) (z1 : Int32) (z2 : Int32) (s : zg_S), wr (W_X7_whose) σ0 s → zw (W_X7_whose) σ0 (rec58_ z0 z1 z2 s)) (hs : wr (W_X7_whose) σ0 s) : zw (W_X7_whose) σ0 (L_X7_whose_84 a1 a2 a3 rec58_ n x4 x5 x6 x7 x8 s) := by
  unfold L_X7_whose_84
  exact zwf_IIIII (fun r hr x4 x5 x6 x7 x8 t ht => wB_X7_whose_84 σ0 a1 a2 a3 rec58_ r x4 x5 x6 x7 x8 t hrec58_ hr ht) n x4 x5 x6 x7 x8 s hs
theorem wB_X7_whose_58 (σ0 : zg_S) (a1 : Int32) (a2 : Int32) (a3 : Int32) (rec58_ : Int32 → Int32 → Int32 → zg_S → Option (Int32 × zg_S)) (x4 : Int32) (x5 : Int32) (x6 : Int32) (s : zg_S) (hrec58_ : ∀ (z0 : Int32) (z1 : Int32) (z2 : Int32) (s : zg_S), wr (W_X7_whose) σ0 s → zw (W_X7_whose) σ0 (rec58_ z0 z1 z2 s)) (hs : wr (W_X7_whose) σ0 s) : zw (W_X7_whose) σ0 (B_X7_whose_58 a1 a2 a3 rec58_ x4 x5 x6 s) := by
  unfold B_X7_whose_58
  refine zw_ite ?_ ?_
  · refine zw_ite ?_ ?_
    · exact zw_some hs
    · exact zw_some hs
  · refine zw_up (by unfold W_X7_whose; omega) hs (fun σ64 hσ64 => ?_)
    refine zw_call (w_X7_goesOnMany a2 σ64) (fun p k h => by unfold W_X7_goesOnMany at h; unfold W_X7_whose; omega) hσ64 (fun r70 σ71 hσ71 => ?_)
    exact wL_X7_whose_84 σ0 a1 a2 a3 rec58_ zfu x4 x5 x6 0 0 σ71 hrec58_ hσ71
theorem wL_X7_whose_58 (σ0 : zg_S) (a1 : Int32) (a2 : Int32) (a3 : Int32) (n : Nat) (x4 : Int32) (x5 : Int32) (x6 : Int32) (s : zg_S) (hs : wr (W_X7_whose) σ0 s) : zw (W_X7_whose) σ0 (L_X7_whose_58 a1 a2 a3 n x4 x5 x6 s) := by
  unfold L_X7_whose_58
  exact zwf_III (fun r hr x4 x5 x6 t ht => wB_X7_whose_58 σ0 a1 a2 a3 r x4 x5 x6 t hr ht) n x4 x5 x6 s hs
theorem w_X7_whose (a1 : Int32) (a2 : Int32) (a3 : Int32) (σ0 : zg_S) : zw (W_X7_whose) σ0 (f_X7_whose a1 a2 a3 σ0) := by
  unfold f_X7_whose
  refine zw_call (w_X7_isSheet a1 σ0) (fun p k h => False.elim h) wr.rf (fun r81 σ82 hσ82 => ?_)
  refine zw_ite ?_ ?_
  · exact zw_some hσ82
  · refine zw_call (w_X7_isIn (Int32.toInt64 a2) (Int32.toInt64 0) (Int32.toInt64 60) σ82) (fun p k h => False.elim h) hσ82 (fun r91 σ92 hσ92 => ?_)
    refine zw_ite ?_ ?_
    · exact zw_some hσ92
    · refine zw_call (w_X7_isIn (Int32.toInt64 a3) (Int32.toInt64 0) (Int32.toInt64 1) σ92) (fun p k h => False.elim h) hσ92 (fun r101 σ102 hσ102 => ?_)
      refine zw_ite ?_ ?_
      · exact zw_some hσ102
      · refine zw_in (fun z1 => ?_)
        refine zw_ite ?_ ?_
        · refine zw_call (w_X7_laysBy σ102) (fun p k h => by unfold W_X7_laysBy at h; unfold W_X7_whose; omega) hσ102 (fun r115 σ116 hσ116 => ?_)
          exact wL_X7_whose_58 σ0 a1 a2 a3 zfu (-1) 0 0 σ116  hσ116
        · exact zw_some hσ102
theorem w_X7_why (a1 : Int32) (σ0 : zg_S) : zw (W_X7_why) σ0 (f_X7_why a1 σ0) := by
  unfold f_X7_why
  refine zw_call (w_X7_isIn (Int32.toInt64 a1) (Int32.toInt64 0) (Int32.toInt64 2) σ0) (fun p k h => False.elim h) wr.rf (fun r1 σ2 hσ2 => ?_)
  refine zw_ite ?_ ?_
  · exact zw_some hσ2
  · refine zw_call (w_X7_counts a1 σ2) (fun p k h => False.elim h) hσ2 (fun r11 σ12 hσ12 => ?_)
    refine zw_call (w_X7_orNone r11 σ12) (fun p k h => False.elim h) hσ12 (fun r18 σ19 hσ19 => ?_)
    exact zw_some hσ19
theorem wB_X7_wider_77 (σ0 : zg_S) (a1 : Int32) (a2 : Int32) (rec37_ : Int32 → Int32 → zg_S → Option (Int32 × zg_S)) (x4 : Int32) (y0 : Int32) (s : zg_S) (hrec37_ : ∀ (z0 : Int32) (z1 : Int32) (s : zg_S), wr (W_X7_wider) σ0 s → zw (W_X7_wider) σ0 (rec37_ z0 z1 s)) (hs : wr (W_X7_wider) σ0 s) : zw (W_X7_wider) σ0 (B_X7_wider_77 a1 a2 rec37_ x4 y0 s) := by
  unfold B_X7_wider_77
  refine zw_call (w_X7_laysBack s) (fun p k h => by unfold W_X7_laysBack at h; unfold W_X7_wider; omega) hs (fun r3 σ4 hσ4 => ?_)
  exact hrec37_ y0 (x4 + (-1)) σ4 hσ4
theorem wB_X7_wider_37 (σ0 : zg_S) (a1 : Int32) (a2 : Int32) (rec37_ : Int32 → Int32 → zg_S → Option (Int32 × zg_S)) (x3 : Int32) (x4 : Int32) (s : zg_S) (hrec37_ : ∀ (z0 : Int32) (z1 : Int32) (s : zg_S), wr (W_X7_wider) σ0 s → zw (W_X7_wider) σ0 (rec37_ z0 z1 s)) (hs : wr (W_X7_wider) σ0 s) : zw (W_X7_wider) σ0 (B_X7_wider_37 a1 a2 rec37_ x3 x4 s) := by
  unfold B_X7_wider_37
  refine zw_ite ?_ ?_
  · refine zw_call (w_X7_orNone x3 s) (fun p k h => False.elim h) hs (fun r14 σ15 hσ15 => ?_)
    exact zw_some hσ15
  · refine zw_up (by unfold W_X7_wider; omega) hs (fun σ22 hσ22 => ?_)
    refine zw_call (w_X7_holds σ22) (fun p k h => by unfold W_X7_holds at h; unfold W_X7_wider; omega) hσ22 (fun r28 σ29 hσ29 => ?_)
    refine zw_call (w_X7_goesOnMany a2 σ29) (fun p k h => by unfold W_X7_goesOnMany at h; unfold W_X7_wider; omega) hσ29 (fun r35 σ36 hσ36 => ?_)
    refine zw_ite ?_ ?_
    · exact wB_X7_wider_77 σ0 a1 a2 rec37_ x4 x3 σ36 hrec37_ hσ36
    · exact wB_X7_wider_77 σ0 a1 a2 rec37_ x4 x4 σ36 hrec37_ hσ36
theorem wL_X7_wider_37 (σ0 : zg_S) (a1 : Int32) (a2 : Int32) (n : Nat) (x3 : Int32) (x4 : Int32) (s : zg_S) (hs : wr (W_X7_wider) σ0 s) : zw (W_X7_wider) σ0 (L_X7_wider_37 a1 a2 n x3 x4 s) := by
  unfold L_X7_wider_37
  exact zwf_II (fun r hr x3 x4 t ht => wB_X7_wider_37 σ0 a1 a2 r x3 x4 t hr ht) n x3 x4 s hs
theorem w_X7_wider (a1 : Int32) (a2 : Int32) (σ0 : zg_S) : zw (W_X7_wider) σ0 (f_X7_wider a1 a2 σ0) := by
  unfold f_X7_wider
  refine zw_call (w_X7_isIn (Int32.toInt64 a1) (Int32.toInt64 0) (Int32.toInt64 9999) σ0) (fun p k h => False.elim h) wr.rf (fun r45 σ46 hσ46 => ?_)
  refine zw_ite ?_ ?_
  · exact zw_some hσ46
  · refine zw_call (w_X7_isIn (Int32.toInt64 a2) (Int32.toInt64 1) (Int32.toInt64 60) σ46) (fun p k h => False.elim h) hσ46 (fun r55 σ56 hσ56 => ?_)
    refine zw_ite ?_ ?_
    · exact zw_some hσ56
    · refine zw_call (w_X7_laysBy σ56) (fun p k h => by unfold W_X7_laysBy at h; unfold W_X7_wider; omega) hσ56 (fun r64 σ65 hσ65 => ?_)
      exact wL_X7_wider_37 σ0 a1 a2 zfu (-1) 6 σ65  hσ65
theorem wB_X7_without_91 (σ0 : zg_S) (a1 : Int32) (a2 : Int32) (rec37_ : Int32 → Int32 → Int32 → zg_S → Option (Int32 × zg_S)) (x3 : Int32) (x4 : Int32) (x5 : Int32) (s : zg_S) (hrec37_ : ∀ (z0 : Int32) (z1 : Int32) (z2 : Int32) (s : zg_S), wr (W_X7_without) σ0 s → zw (W_X7_without) σ0 (rec37_ z0 z1 z2 s)) (hs : wr (W_X7_without) σ0 s) : zw (W_X7_without) σ0 (B_X7_without_91 a1 a2 rec37_ x3 x4 x5 s) := by
  unfold B_X7_without_91
  exact hrec37_ x3 x4 (x5 + 1) s hs
theorem wB_X7_without_84 (σ0 : zg_S) (a1 : Int32) (a2 : Int32) (rec37_ : Int32 → Int32 → Int32 → zg_S → Option (Int32 × zg_S)) (x5 : Int32) (x6 : Int32) (s : zg_S) (hrec37_ : ∀ (z0 : Int32) (z1 : Int32) (z2 : Int32) (s : zg_S), wr (W_X7_without) σ0 s → zw (W_X7_without) σ0 (rec37_ z0 z1 z2 s)) (hs : wr (W_X7_without) σ0 s) : zw (W_X7_without) σ0 (B_X7_without_84 a1 a2 rec37_ x5 x6 s) := by
  unfold B_X7_without_84
  exact wB_X7_without_91 σ0 a1 a2 rec37_ x5 x6 x5 s hrec37_ hs
theorem wB_X7_without_37 (σ0 : zg_S) (a1 : Int32) (a2 : Int32) (rec37_ : Int32 → Int32 → Int32 → zg_S → Option (Int32 × zg_S)) (x3 : Int32) (x4 : Int32) (x5 : Int32) (s : zg_S) (hrec37_ : ∀ (z0 : Int32) (z1 : Int32) (z2 : Int32) (s : zg_S), wr (W_X7_without) σ0 s → zw (W_X7_without) σ0 (rec37_ z0 z1 z2 s)) (hs : wr (W_X7_without) σ0 s) : zw (W_X7_without) σ0 (B_X7_without_37 a1 a2 rec37_ x3 x4 x5 s) := by
  unfold B_X7_without_37
  refine zw_ite ?_ ?_
  · refine zw_ite ?_ ?_
    · refine zw_ite ?_ ?_
      · exact zw_some hs
      · exact zw_some hs
    · exact zw_some hs
  · refine zw_call (w_X7_sets x5 3 0 s) (fun p k h => by unfold W_X7_sets at h; unfold W_X7_without; omega) hs (fun r16 σ17 hσ17 => ?_)
    refine zw_call (w_X7_goesOnMany a1 σ17) (fun p k h => by unfold W_X7_goesOnMany at h; unfold W_X7_without; omega) hσ17 (fun r23 σ24 hσ24 => ?_)
    refine zw_call (w_X7_laysBack σ24) (fun p k h => by unfold W_X7_laysBack at h; unfold W_X7_without; omega) hσ24 (fun r32 σ33 hσ33 => ?_)
    refine zw_ite ?_ ?_
    · exact wB_X7_without_84 σ0 a1 a2 rec37_ x5 (σ24 1 3) σ33 hrec37_ hσ33
    · refine zw_ite ?_ ?_
      · exact wB_X7_without_91 σ0 a1 a2 rec37_ x3 x4 x5 σ33 hrec37_ hσ33
      · exact wB_X7_without_84 σ0 a1 a2 rec37_ x5 (σ24 1 3) σ33 hrec37_ hσ33
theorem wL_X7_without_37 (σ0 : zg_S) (a1 : Int32) (a2 : Int32) (n : Nat) (x3 : Int32) (x4 : Int32) (x5 : Int32) (s : zg_S) (hs : wr (W_X7_without) σ0 s) : zw (W_X7_without) σ0 (L_X7_without_37 a1 a2 n x3 x4 x5 s) := by
  unfold L_X7_without_37
  exact zwf_III (fun r hr x3 x4 x5 t ht => wB_X7_without_37 σ0 a1 a2 r x3 x4 x5 t hr ht) n x3 x4 x5 s hs
theorem w_X7_without (a1 : Int32) (a2 : Int32) (σ0 : zg_S) : zw (W_X7_without) σ0 (f_X7_without a1 a2 σ0) := by
  unfold f_X7_without
  refine zw_call (w_X7_isIn (Int32.toInt64 a1) (Int32.toInt64 1) (Int32.toInt64 60) σ0) (fun p k h => False.elim h) wr.rf (fun r45 σ46 hσ46 => ?_)
  refine zw_ite ?_ ?_
  · exact zw_some hσ46
  · refine zw_call (w_X7_isIn (Int32.toInt64 a2) (Int32.toInt64 0) (Int32.toInt64 1) σ46) (fun p k h => False.elim h) hσ46 (fun r55 σ56 hσ56 => ?_)
    refine zw_ite ?_ ?_
    · exact zw_some hσ56
    · refine zw_call (w_X7_laysBy σ56) (fun p k h => by unfold W_X7_laysBy at h; unfold W_X7_without; omega) hσ56 (fun r64 σ65 hσ65 => ?_)
      exact wL_X7_without_37 σ0 a1 a2 zfu (-1) 0 0 σ65  hσ65
end
