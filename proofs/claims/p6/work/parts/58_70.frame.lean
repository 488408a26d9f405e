/-! what is written, at most -/
def wr (W : Nat → Nat → Prop) (σ s : zg_S) : Prop := ∀ p k, ¬ W p k → s p k = σ p k
theorem wr.rf {W : Nat → Nat → Prop} {σ : zg_S} : wr W σ σ := fun _ _ _ => rfl
theorem wr.tr {W W' : Nat → Nat → Prop} {σ s t : zg_S} (h1 : wr W σ s) (h2 : wr W' s t) (h : ∀ p k, W' p k → W p k) : wr W σ t := fun p k hn => (h2 p k (fun z => hn (h p k z))).trans (h1 p k hn)
theorem wr.up {W : Nat → Nat → Prop} {σ s : zg_S} {p k : Nat} {v : Int32} (h1 : wr W σ s) (h : W p k) : wr W σ (zg_up s p k v) := fun q j hn => by
  unfold zg_up
  by_cases e : q = p
  · subst e
    rw [zg_row_eq]
    by_cases ej : j = k
    · subst ej; exact absurd h hn
    · rw [pk_un ej]; exact h1 q j hn
  · rw [zg_row_ne e]; exact h1 q j hn
theorem wr.row {W : Nat → Nat → Prop} {σ s : zg_S} {p : Nat} {f : Nat → Int32} (h1 : wr W σ s) (h : ∀ k, W p k) : wr W σ (zg_row s p f) := fun q j hn => by
  by_cases e : q = p
  · subst e; exact absurd (h j) hn
  · rw [zg_row_ne e]; exact h1 q j hn
def zw (W : Nat → Nat → Prop) (σ : zg_S) (o : Option (Int32 × zg_S)) : Prop := ∀ r s, o = some (r, s) → wr W σ s
theorem zw_none {W : Nat → Nat → Prop} {σ : zg_S} : zw W σ none := fun r s h => by cases h
theorem zw_some {W : Nat → Nat → Prop} {σ s : zg_S} {r : Int32} (h : wr W σ s) : zw W σ (some (r, s)) := fun r' s' e => by cases e; exact h
theorem zw_ite {W : Nat → Nat → Prop} {σ : zg_S} {c : Prop} [Decidable c] {t e : Option (Int32 × zg_S)} (h1 : zw W σ t) (h2 : zw W σ e) : zw W σ (if c then t else e) := by
  by_cases h : c
  · rw [if_pos h]; exact h1
  · rw [if_neg h]; exact h2
theorem zw_in {W : Nat → Nat → Prop} {σ : zg_S} {i : Int32} {n : Nat} {t : Option (Int32 × zg_S)} (h1 : i.toNatClampNeg < n → zw W σ t) : zw W σ (if zin i n = true then t else none) := by
  by_cases h : zin i n = true
  · rw [if_pos h]; exact h1 (zIn h).2
  · rw [if_neg h]; exact zw_none
theorem zw_let {W : Nat → Nat → Prop} {σ : zg_S} {α : Type} {a : α} {k : α → Option (Int32 × zg_S)} (h : ∀ x, zw W σ (k x)) : zw W σ (zlet a k) := h a
theorem zw_up {W : Nat → Nat → Prop} {σ s : zg_S} {p j : Nat} {v : Int32} {k : zg_S → Option (Int32 × zg_S)} (hw : W p j) (hs : wr W σ s) (h : ∀ x, wr W σ x → zw W σ (k x)) : zw W σ (zlet (zg_up s p j v) k) := h _ (hs.up hw)
theorem zw_row {W : Nat → Nat → Prop} {σ s : zg_S} {p : Nat} {f : Nat → Int32} {k : zg_S → Option (Int32 × zg_S)} (hw : ∀ j, W p j) (hs : wr W σ s) (h : ∀ x, wr W σ x → zw W σ (k x)) : zw W σ (zlet (zg_row s p f) k) := h _ (hs.row hw)
theorem zw_call {W W' : Nat → Nat → Prop} {σ s : zg_S} {o : Option (Int32 × zg_S)} {k : Int32 → zg_S → Option (Int32 × zg_S)} (ho : zw W' s o) (hW : ∀ p j, W' p j → W p j) (hs : wr W σ s) (h : ∀ r t, wr W σ t → zw W σ (k r t)) : zw W σ (zbd o k) := fun r' s' e => by
  obtain ⟨r, t, e1, e2⟩ := zBd e
  exact h r t (hs.tr (ho r t e1) hW) r' s' e2
theorem zw_rec {W : Nat → Nat → Prop} {σ : zg_S} {o : Option (Int32 × zg_S)} {k : Int32 → zg_S → Option (Int32 × zg_S)} (ho : zw W σ o) (h : ∀ r t, wr W σ t → zw W σ (k r t)) : zw W σ (zbd o k) := fun r' s' e => by
  obtain ⟨r, t, e1, e2⟩ := zBd e
  exact h r t (ho r t e1) r' s' e2
theorem zwf_0 {W : Nat → Nat → Prop} {σ : zg_S} {F : (zg_S → Option (Int32 × zg_S)) → zg_S → Option (Int32 × zg_S)} (h : ∀ (rec : zg_S → Option (Int32 × zg_S)), (∀  (s : zg_S), wr W σ s → zw W σ (rec  s)) → ∀  (s : zg_S), wr W σ s → zw W σ (F rec  s)) : ∀ (n : Nat)  (s : zg_S), wr W σ s → zw W σ (zfix (fun _ => none) F n  s) := by
  intro n
  induction n with
  | zero => intro  s _; exact zw_none
  | succ n ih => intro  s hs; exact h _ ih  s hs
theorem zwf_I {W : Nat → Nat → Prop} {σ : zg_S} {F : (Int32 → zg_S → Option (Int32 × zg_S)) → Int32 → zg_S → Option (Int32 × zg_S)} (h : ∀ (rec : Int32 → zg_S → Option (Int32 × zg_S)), (∀ (x0 : Int32) (s : zg_S), wr W σ s → zw W σ (rec x0 s)) → ∀ (x0 : Int32) (s : zg_S), wr W σ s → zw W σ (F rec x0 s)) : ∀ (n : Nat) (x0 : Int32) (s : zg_S), wr W σ s → zw W σ (zfix (fun _ _ => none) F n x0 s) := by
  intro n
  induction n with
  | zero => intro x0 s _; exact zw_none
  | succ n ih => intro x0 s hs; exact h _ ih x0 s hs
theorem zwf_II {W : Nat → Nat → Prop} {σ : zg_S} {F : (Int32 → Int32 → zg_S → Option (Int32 × zg_S)) → Int32 → Int32 → zg_S → Option (Int32 × zg_S)} (h : ∀ (rec : Int32 → Int32 → zg_S → Option (Int32 × zg_S)), (∀ (x0 : Int32) (x1 : Int32) (s : zg_S), wr W σ s → zw W σ (rec x0 x1 s)) → ∀ (x0 : Int32) (x1 : Int32) (s : zg_S), wr W σ s → zw W σ (F rec x0 x1 s)) : ∀ (n : Nat) (x0 : Int32) (x1 : Int32) (s : zg_S), wr W σ s → zw W σ (zfix (fun _ _ _ => none) F n x0 x1 s) := by
  intro n
  induction n with
  | zero => intro x0 x1 s _; exact zw_none
  | succ n ih => intro x0 x1 s hs; exact h _ ih x0 x1 s hs
theorem zwf_III {W : Nat → Nat → Prop} {σ : zg_S} {F : (Int32 → Int32 → Int32 → zg_S → Option (Int32 × zg_S)) → Int32 → Int32 → Int32 → zg_S → Option (Int32 × zg_S)} (h : ∀ (rec : Int32 → Int32 → Int32 → zg_S → Option (Int32 × zg_S)), (∀ (x0 : Int32) (x1 : Int32) (x2 : Int32) (s : zg_S), wr W σ s → zw W σ (rec x0 x1 x2 s)) → ∀ (x0 : Int32) (x1 : Int32) (x2 : Int32) (s : zg_S), wr W σ s → zw W σ (F rec x0 x1 x2 s)) : ∀ (n : Nat) (x0 : Int32) (x1 : Int32) (x2 : Int32) (s : zg_S), wr W σ s → zw W σ (zfix (fun _ _ _ _ => none) F n x0 x1 x2 s) := by
  intro n
  induction n with
  | zero => intro x0 x1 x2 s _; exact zw_none
  | succ n ih => intro x0 x1 x2 s hs; exact h _ ih x0 x1 x2 s hs
theorem zwf_IIII {W : Nat → Nat → Prop} {σ : zg_S} {F : (Int32 → Int32 → Int32 → Int32 → zg_S → Option (Int32 × zg_S)) → Int32 → Int32 → Int32 → Int32 → zg_S → Option (Int32 × zg_S)} (h : ∀ (rec : Int32 → Int32 → Int32 → Int32 → zg_S → Option (Int32 × zg_S)), (∀ (x0 : Int32) (x1 : Int32) (x2 : Int32) (x3 : Int32) (s : zg_S), wr W σ s → zw W σ (rec x0 x1 x2 x3 s)) → ∀ (x0 : Int32) (x1 : Int32) (x2 : Int32) (x3 : Int32) (s : zg_S), wr W σ s → zw W σ (F rec x0 x1 x2 x3 s)) : ∀ (n : Nat) (x0 : Int32) (x1 : Int32) (x2 : Int32) (x3 : Int32) (s : zg_S), wr W σ s → zw W σ (zfix (fun _ _ _ _ _ => none) F n x0 x1 x2 x3 s) := by
  intro n
  induction n with
  | zero => intro x0 x1 x2 x3 s _; exact zw_none
  | succ n ih => intro x0 x1 x2 x3 s hs; exact h _ ih x0 x1 x2 x3 s hs
theorem zwf_IIIII {W : Nat → Nat → Prop} {σ : zg_S} {F : (Int32 → Int32 → Int32 → Int32 → Int32 → zg_S → Option (Int32 × zg_S)) → Int32 → Int32 → Int32 → Int32 → Int32 → zg_S → Option (Int32 × zg_S)} (h : ∀ (rec : Int32 → Int32 → Int32 → Int32 → Int32 → zg_S → Option (Int32 × zg_S)), (∀ (x0 : Int32) (x1 : Int32) (x2 : Int32) (x3 : Int32) (x4 : Int32) (s : zg_S), wr W σ s → zw W σ (rec x0 x1 x2 x3 x4 s)) → ∀ (x0 : Int32) (x1 : Int32) (x2 : Int32) (x3 : Int32) (x4 : Int32) (s : zg_S), wr W σ s → zw W σ (F rec x0 x1 x2 x3 x4 s)) : ∀ (n : Nat) (x0 : Int32) (x1 : Int32) (x2 : Int32) (x3 : Int32) (x4 : Int32) (s : zg_S), wr W σ s → zw W σ (zfix (fun _ _ _ _ _ _ => none) F n x0 x1 x2 x3 x4 s) := by
  intro n
  induction n with
  | zero => intro x0 x1 x2 x3 x4 s _; exact zw_none
  | succ n ih => intro x0 x1 x2 x3 x4 s hs; exact h _ ih x0 x1 x2 x3 x4 s hs
theorem zwf_NI {W : Nat → Nat → Prop} {σ : zg_S} {F : (Nat → Int32 → zg_S → Option (Int32 × zg_S)) → Nat → Int32 → zg_S → Option (Int32 × zg_S)} (h : ∀ (rec : Nat → Int32 → zg_S → Option (Int32 × zg_S)), (∀ (x0 : Nat) (x1 : Int32) (s : zg_S), wr W σ s → zw W σ (rec x0 x1 s)) → ∀ (x0 : Nat) (x1 : Int32) (s : zg_S), wr W σ s → zw W σ (F rec x0 x1 s)) : ∀ (n : Nat) (x0 : Nat) (x1 : Int32) (s : zg_S), wr W σ s → zw W σ (zfix (fun _ _ _ => none) F n x0 x1 s) := by
  intro n
  induction n with
  | zero => intro x0 x1 s _; exact zw_none
  | succ n ih => intro x0 x1 s hs; exact h _ ih x0 x1 s hs
theorem zwf_NII {W : Nat → Nat → Prop} {σ : zg_S} {F : (Nat → Int32 → Int32 → zg_S → Option (Int32 × zg_S)) → Nat → Int32 → Int32 → zg_S → Option (Int32 × zg_S)} (h : ∀ (rec : Nat → Int32 → Int32 → zg_S → Option (Int32 × zg_S)), (∀ (x0 : Nat) (x1 : Int32) (x2 : Int32) (s : zg_S), wr W σ s → zw W σ (rec x0 x1 x2 s)) → ∀ (x0 : Nat) (x1 : Int32) (x2 : Int32) (s : zg_S), wr W σ s → zw W σ (F rec x0 x1 x2 s)) : ∀ (n : Nat) (x0 : Nat) (x1 : Int32) (x2 : Int32) (s : zg_S), wr W σ s → zw W σ (zfix (fun _ _ _ _ => none) F n x0 x1 x2 s) := by
  intro n
  induction n with
  | zero => intro x0 x1 x2 s _; exact zw_none
  | succ n ih => intro x0 x1 x2 s hs; exact h _ ih x0 x1 x2 s hs
def W_J0_coder_7d493 (_p _k : Nat) : Prop := False
def W_J0_length_8abf5 (_p _k : Nat) : Prop := False
def W_J0_isLatin1_aae02 (_p _k : Nat) : Prop := False
def W_J3_checkIndex_8e157 (_p _k : Nat) : Prop := False
def W_J0_checkIndex_df160 (_p _k : Nat) : Prop := False
def W_J1_charAt_3b067 (_p _k : Nat) : Prop := False
def W_J0_charAt_5068e (_p _k : Nat) : Prop := False
def W_J1_canEncode_9a6ad (_p _k : Nat) : Prop := False
def W_J1_indexOfChar_4cfef (_p _k : Nat) : Prop := False
def W_J1_indexOf_4cfef (_p _k : Nat) : Prop := False
def W_J0_indexOf_7cf53 (_p _k : Nat) : Prop := False
def W_J0_indexOf_0f7a4 (_p _k : Nat) : Prop := False
def W_J6_bitCount_0f7a4 (_p _k : Nat) : Prop := False
def W_X0_allGoods (_p _k : Nat) : Prop := False
def W_X0_draw (q0 : Nat) (p k : Nat) : Prop := p = q0 ∧ k = 13
def W_X0_lastFirst (_p _k : Nat) : Prop := False
def W_X6_held (_p _k : Nat) : Prop := False
def W_X0_blow (q0 : Nat) (p k : Nat) : Prop := p = q0 ∧ (k = 6 ∨ k = 12 ∨ k = 13)
def W_X6_within (_p _k : Nat) : Prop := False
def W_X2_hasPlace (_p _k : Nat) : Prop := False
def W_X2_hasNumber (_p _k : Nat) : Prop := False
def W_X0_differencesFrom (_p _k : Nat) : Prop := False
def W_X5_takeOver (q0 : Nat) (p k : Nat) : Prop := p = q0 + 1 ∨ (p = q0 ∧ k < 3)
def W_X0_enact (q0 : Nat) (p k : Nat) : Prop := p = q0 + 2 ∨ (p = q0 ∧ k = 4) ∨ (11 ≤ p ∧ p ≤ 52 ∧ p % 3 ≠ 1)
def W_X0_slant (_p _k : Nat) : Prop := False
def W_X0_wouldShade (_p _k : Nat) : Prop := False
def W_X0_shades (_p _k : Nat) : Prop := False
def W_X0_firstShaded (_p _k : Nat) : Prop := False
def W_X0_hauledTo (_p _k : Nat) : Prop := False
def W_X4_shadeLoss (_p _k : Nat) : Prop := False
def W_X0_heat (_p _k : Nat) : Prop := False
def W_X5_joined (_p _k : Nat) : Prop := False
def W_X5_workOut (q0 : Nat) (p k : Nat) : Prop := p = q0 + 2
def W_X0_plainLoss  (p k : Nat) : Prop := (13 ≤ p ∧ p ≤ 52 ∧ p % 3 = 1)
def W_X4_sunLoss (_p _k : Nat) : Prop := False
def W_X0_lossOf  (p k : Nat) : Prop := (13 ≤ p ∧ p ≤ 52 ∧ p % 3 = 1)
def W_X0_haulingByLoss  (p k : Nat) : Prop := (13 ≤ p ∧ p ≤ 52 ∧ p % 3 = 1)
def W_X0_payUnder (_p _k : Nat) : Prop := False
def W_X0_haulingByPay (_p _k : Nat) : Prop := False
def W_X0_hauling  (p k : Nat) : Prop := (13 ≤ p ∧ p ≤ 52 ∧ p % 3 = 1)
def W_X0_open (q0 : Nat) (p k : Nat) : Prop := (q0 + 3 ≤ p ∧ p ≤ q0 + 11) ∨ (p = q0 ∧ k = 3)
def W_X0_passHour (q0 : Nat) (p k : Nat) : Prop := (q0 + 3 ≤ p ∧ p ≤ q0 + 11 ∧ k = 2) ∨ (p = q0 ∧ (k = 6 ∨ k = 7 ∨ (10 ≤ k ∧ k ≤ 13))) ∨ (13 ≤ p ∧ p ≤ 52 ∧ p % 3 = 1)
def W_X0_shadedSet (_p _k : Nat) : Prop := False
def W_X4_takeOver (q0 : Nat) (p k : Nat) : Prop := p = q0 ∧ k < 4
def W_X0_takeOver (q0 : Nat) (p k : Nat) : Prop := (p = q0 ∧ 3 ≤ k ∧ k ≤ 13) ∨ (q0 + 2 ≤ p ∧ p ≤ q0 + 11)
def W_X0_widen (q0 : Nat) (p k : Nat) : Prop := p = q0 ∧ (k = 5 ∨ k = 6)
def W_X1_sortAt (_p _k : Nat) : Prop := False
def W_X1_advance  (p k : Nat) : Prop := p = 7 ∧ 3 ≤ k ∧ k ≤ 5
def W_X1_isWord (_p _k : Nat) : Prop := False
def W_X1_keyHere (_p _k : Nat) : Prop := False
def W_X1_levelOf (_p _k : Nat) : Prop := False
def W_X5_addStep (q0 : Nat) (p k : Nat) : Prop := p = q0 + 1 ∨ (p = q0 ∧ k = 2)
def W_X5_addLeaf (q0 : Nat) (p k : Nat) : Prop := p = q0 + 1 ∨ (p = q0 ∧ (k = 1 ∨ k = 2))
def W_X1_readNumber  (p k : Nat) : Prop := (p = 7 ∧ 3 ≤ k ∧ k ≤ 5) ∨ p = 8 ∨ p = 9
def W_X1_readName  (p k : Nat) : Prop := (p = 7 ∧ 3 ≤ k ∧ k ≤ 5) ∨ p = 8 ∨ p = 9
def W_X1_signHere (_p _k : Nat) : Prop := False
def W_G_rd (p k : Nat) : Prop := (p = 7 ∧ 3 ≤ k ∧ k ≤ 7) ∨ p = 8 ∨ p = 9
def W_X5_begin (q0 : Nat) (p k : Nat) : Prop := p = q0 ∧ k < 3
def W_X1_readText  (p k : Nat) : Prop := (p = 7 ∧ 2 ≤ k ∧ k ≤ 7) ∨ p = 8 ∨ p = 9
def W_X2_become (q0 : Nat) (p k : Nat) : Prop := (p = q0 ∧ k < 2) ∨ p = q0 + 1
def W_X2_hasPlaces (_p _k : Nat) : Prop := False
def W_X2_isMissing (_p _k : Nat) : Prop := False
def W_X2_takeOver (q0 : Nat) (p k : Nat) : Prop := (p = q0 ∧ k < 2) ∨ p = q0 + 1
def W_X3_refuses (_p _k : Nat) : Prop := False
def W_X4_isOf (_p _k : Nat) : Prop := False
def W_X4_worth (_p _k : Nat) : Prop := False
def W_X6_isStall (_p _k : Nat) : Prop := False
def W_X6_as (_p _k : Nat) : Prop := False
def W_X6_isSlot (_p _k : Nat) : Prop := False
def W_X6_ask (_p _k : Nat) : Prop := False
def W_X6_back  (p k : Nat) : Prop := 153 ≤ p ∧ p ≤ 164
def W_X6_thinkOn  (p k : Nat) : Prop := ((165 ≤ p ∧ p ≤ 176) ∨ (13 ≤ p ∧ p ≤ 52 ∧ p % 3 = 1))
def W_X6_behind  (p k : Nat) : Prop := ((165 ≤ p ∧ p ≤ 176) ∨ (13 ≤ p ∧ p ≤ 52 ∧ p % 3 = 1))
def W_G_th (p k : Nat) : Prop := (p = 0 ∧ (k = 13 ∨ k = 14)) ∨ (81 ≤ p ∧ p ≤ 152) ∨ (13 ≤ p ∧ p ≤ 52 ∧ p % 3 = 1)
def W_X6_best  (p k : Nat) : Prop := (p = 0 ∧ (k = 13 ∨ k = 14)) ∨ (81 ≤ p ∧ p ≤ 152) ∨ (13 ≤ p ∧ p ≤ 52 ∧ p % 3 = 1)
def W_X6_book (_p _k : Nat) : Prop := False
def W_X6_check  (p k : Nat) : Prop := (p = 0 ∧ k = 11) ∨ ((165 ≤ p ∧ p ≤ 176) ∨ (13 ≤ p ∧ p ≤ 52 ∧ p % 3 = 1))
def W_X6_cloth (_p _k : Nat) : Prop := False
def W_X6_isSheet (_p _k : Nat) : Prop := False
def W_X6_copy (a3 : Int32) (p k : Nat) : Prop := p = 54 + 2 * Int32.toNatClampNeg a3
def W_X6_count (_p _k : Nat) : Prop := False
def W_X6_deal  (p k : Nat) : Prop := (156 ≤ p ∧ p ≤ 164) ∨ (p = 153 ∧ (k = 3 ∨ k = 13))
def W_X6_fee  (p k : Nat) : Prop := (13 ≤ p ∧ p ≤ 52 ∧ p % 3 = 1)
def W_X6_feedBytes  (p k : Nat) : Prop := (p = 0 ∧ k = 10) ∨ p = 6
def W_X6_feed  (p k : Nat) : Prop := (p = 0 ∧ k = 10) ∨ p = 6
def W_X6_fine  (p k : Nat) : Prop := (13 ≤ p ∧ p ≤ 52 ∧ p % 3 = 1)
def W_X6_goods  (p k : Nat) : Prop := ((165 ≤ p ∧ p ≤ 176) ∨ (13 ≤ p ∧ p ≤ 52 ∧ p % 3 = 1))
def W_X6_hours  (p k : Nat) : Prop := (156 ≤ p ∧ p ≤ 164 ∧ k = 2) ∨ (p = 153 ∧ (k = 6 ∨ k = 7 ∨ (10 ≤ k ∧ k ≤ 13))) ∨ (13 ≤ p ∧ p ≤ 52 ∧ p % 3 = 1)
def W_X6_item (_p _k : Nat) : Prop := False
def W_X6_keep  (p k : Nat) : Prop := (p = 0 ∧ k = 12) ∨ (177 ≤ p ∧ p ≤ 188)
def W_X6_lay (a1 : Int32) (p k : Nat) : Prop := 61 + 4 * Int32.toNatClampNeg a1 ≤ p ∧ p ≤ 64 + 4 * Int32.toNatClampNeg a1
def W_X6_mark (a1 : Int32) (p k : Nat) : Prop := p = 54 + 2 * Int32.toNatClampNeg a1
def W_X6_pour  (p k : Nat) : Prop := 156 ≤ p ∧ p ≤ 164 ∧ k = 2
def W_X6_reads  (p k : Nat) : Prop := (13 ≤ p ∧ p ≤ 52 ∧ p % 3 = 1)
def W_X6_rest (_p _k : Nat) : Prop := False
def W_X6_ruleFirst  (p k : Nat) : Prop := p = 153 ∧ k = 6
def W_X6_ruleWidth  (p k : Nat) : Prop := p = 153 ∧ (k = 5 ∨ k = 6)
def W_X6_ruleGust  (p k : Nat) : Prop := p = 153 ∧ k = 8
def W_X6_ruleMode  (p k : Nat) : Prop := p = 153 ∧ k = 9
def W_X6_rule  (p k : Nat) : Prop := p = 153 ∧ (k = 5 ∨ k = 6 ∨ k = 8 ∨ k = 9)
def W_X6_seed  (p k : Nat) : Prop := p = 153 ∧ k = 13
def W_X6_setPlace (q0 : Nat) (p k : Nat) : Prop := p = q0 ∧ k = 1
def W_X6_setGoods (q0 : Nat) (p k : Nat) : Prop := p = q0 ∧ k = 2
def W_X6_setPay (q0 : Nat) (p k : Nat) : Prop := p = q0 ∧ k = 3
def W_X6_set (a1 : Int32) (p k : Nat) : Prop := p = 156 + Int32.toNatClampNeg a1 ∧ 1 ≤ k ∧ k ≤ 3
def W_X6_shaded  (p k : Nat) : Prop := ((165 ≤ p ∧ p ≤ 176) ∨ (13 ≤ p ∧ p ≤ 52 ∧ p % 3 = 1))
def W_X6_sheet (a1 : Int32) (p k : Nat) : Prop := 53 + 2 * Int32.toNatClampNeg a1 ≤ p ∧ p ≤ 54 + 2 * Int32.toNatClampNeg a1
def W_X6_stall  (p k : Nat) : Prop := (156 ≤ p ∧ p ≤ 164) ∨ (p = 153 ∧ k = 3)
def W_X6_tell  (p k : Nat) : Prop := (p = 0 ∧ k = 11) ∨ p = 5
def W_X6_text  (p k : Nat) : Prop := (p = 0 ∧ k = 10) ∨ p = 7 ∨ p = 8 ∨ p = 9 ∨ p = 155 ∨ (p = 153 ∧ k = 4) ∨ (11 ≤ p ∧ p ≤ 52 ∧ p % 3 ≠ 1)
def W_X6_textTold (_p _k : Nat) : Prop := False
def W_X6_told  (p k : Nat) : Prop := (13 ≤ p ∧ p ≤ 52 ∧ p % 3 = 1)
def W_X6_trim  (p k : Nat) : Prop := p = 0 ∧ k = 10
def W_X6_turns (a1 : Int32) (p k : Nat) : Prop := p = 156 + Int32.toNatClampNeg a1 ∧ k = 0
def W_X6_whose  (p k : Nat) : Prop := ((165 ≤ p ∧ p ≤ 176) ∨ (13 ≤ p ∧ p ≤ 52 ∧ p % 3 = 1))
def W_X6_why (_p _k : Nat) : Prop := False
def W_X6_wider  (p k : Nat) : Prop := ((165 ≤ p ∧ p ≤ 176) ∨ (13 ≤ p ∧ p ≤ 52 ∧ p % 3 = 1))
def W_X6_without  (p k : Nat) : Prop := ((165 ≤ p ∧ p ≤ 176) ∨ (13 ≤ p ∧ p ≤ 52 ∧ p % 3 = 1))
def W_X7_isIn (_p _k : Nat) : Prop := False
def W_X7_isStall (_p _k : Nat) : Prop := False
def W_X7_of (_p _k : Nat) : Prop := False
def W_X7_isOf (_p _k : Nat) : Prop := False
def W_X7_as (_p _k : Nat) : Prop := False
def W_X7_isSlot (_p _k : Nat) : Prop := False
def W_X7_ask (_p _k : Nat) : Prop := False
def W_X7_setAside (q2 : Nat) (p k : Nat) : Prop := p = q2
def W_X7_back  (p k : Nat) : Prop := p = 1
def W_X7_becomes (a1 : Int32) (p k : Nat) : Prop := p = 1 ∧ k = Int32.toNatClampNeg a1
def W_X7_laysBy  (p k : Nat) : Prop := p = 12
def W_X7_within (_p _k : Nat) : Prop := False
def W_X7_holds  (p k : Nat) : Prop := p = 1 ∧ k = 7
def W_X7_shadeFrom (_p _k : Nat) : Prop := False
def W_X7_isShaded (_p _k : Nat) : Prop := False
def W_X7_payNow (_p _k : Nat) : Prop := False
def W_X7_payIf  (p k : Nat) : Prop := p = 1 ∧ k = 7
def W_X7_textAt (_p _k : Nat) : Prop := False
def W_X7_counts (_p _k : Nat) : Prop := False
def W_X7_off (_p _k : Nat) : Prop := False
def W_X7_heat (_p _k : Nat) : Prop := False
def W_X7_joined (_p _k : Nat) : Prop := False
def W_X7_worked  (p k : Nat) : Prop := p = 15
def W_X7_melts  (p k : Nat) : Prop := p = 14 ∨ p = 15
def W_X7_spoils  (p k : Nat) : Prop := p = 14 ∨ p = 15
def W_X7_hauls  (p k : Nat) : Prop := p = 14 ∨ p = 15 ∨ (p = 1 ∧ k = 7)
def W_X7_sets (a1 : Int32) (a2 : Int32) (p k : Nat) : Prop := p = 1 ∧ k = Int32.toNatClampNeg ((11 + (4 * a1)) + a2)
def W_X7_drawn  (p k : Nat) : Prop := p = 1 ∧ k = 6
def W_X7_goesOnBy  (p k : Nat) : Prop := p = 1 ∨ p = 14 ∨ p = 15
def W_X7_goesOn  (p k : Nat) : Prop := p = 1 ∨ p = 14 ∨ p = 15
def W_X7_goesOnMany  (p k : Nat) : Prop := p = 1 ∨ p = 14 ∨ p = 15
def W_X7_laysBack  (p k : Nat) : Prop := p = 1
def W_X7_behind  (p k : Nat) : Prop := p = 1 ∨ p = 12 ∨ p = 14 ∨ p = 15
def W_X7_best  (p k : Nat) : Prop := p = 1 ∨ p = 12 ∨ p = 14 ∨ p = 15
def W_X7_book (_p _k : Nat) : Prop := False
def W_X7_step  (p k : Nat) : Prop := (p = 0 ∧ k = 22) ∨ p = 1
def W_X7_isLetter (_p _k : Nat) : Prop := False
def W_X7_isDigit (_p _k : Nat) : Prop := False
def W_X7_nextToken  (p k : Nat) : Prop := p = 0 ∧ 15 ≤ k ∧ k ≤ 19
def W_X7_isName (_p _k : Nat) : Prop := False
def W_X7_isSign (_p _k : Nat) : Prop := False
def W_G_mp (p k : Nat) : Prop := (p = 0 ∧ 15 ≤ k ∧ k ≤ 24) ∨ p = 1
def W_X7_check  (p k : Nat) : Prop := (p = 0 ∧ k = 29) ∨ p = 1 ∨ p = 3 ∨ p = 14 ∨ p = 15 ∨ p = 18
def W_X7_firstShaded (_p _k : Nat) : Prop := False
def W_X7_orNone (_p _k : Nat) : Prop := False
def W_X7_shadedSet (_p _k : Nat) : Prop := False
def W_X7_cloth (_p _k : Nat) : Prop := False
def W_X7_comes  (p k : Nat) : Prop := p = 1
def W_X7_isSheet (_p _k : Nat) : Prop := False
def W_X7_copy  (p k : Nat) : Prop := p = 16 ∨ p = 6
def W_X7_manyShaded (_p _k : Nat) : Prop := False
def W_X7_count (_p _k : Nat) : Prop := False
def W_X7_deal  (p k : Nat) : Prop := p = 1
def W_X7_fee  (p k : Nat) : Prop := p = 14 ∨ p = 15
def W_X7_feed  (p k : Nat) : Prop := (p = 0 ∧ k = 14) ∨ p = 13
def W_X7_fine  (p k : Nat) : Prop := p = 14 ∨ p = 15
def W_X7_goods  (p k : Nat) : Prop := p = 1 ∨ p = 12 ∨ p = 14 ∨ p = 15
def W_X7_hours  (p k : Nat) : Prop := p = 1 ∨ p = 14 ∨ p = 15
def W_X7_isText (_p _k : Nat) : Prop := False
def W_X7_isWordAt (_p _k : Nat) : Prop := False
def W_X7_item (_p _k : Nat) : Prop := False
def W_X7_keep  (p k : Nat) : Prop := (p = 0 ∧ k = 3) ∨ p = 2
def W_X7_key (_p _k : Nat) : Prop := False
def W_X7_worth (_p _k : Nat) : Prop := False
def W_X7_lay  (p k : Nat) : Prop := 7 ≤ p ∧ p ≤ 11
def W_X7_mark  (p k : Nat) : Prop := p = 6
def W_X7_mostOf (_p _k : Nat) : Prop := False
def W_X7_parse  (p k : Nat) : Prop := (p = 0 ∧ 14 ≤ k ∧ k ≤ 24) ∨ p = 1
def W_X7_pour  (p k : Nat) : Prop := p = 1
def W_X7_reads  (p k : Nat) : Prop := p = 14 ∨ p = 15
def W_X7_rest (_p _k : Nat) : Prop := False
def W_X7_rule  (p k : Nat) : Prop := p = 1
def W_X7_seed  (p k : Nat) : Prop := p = 1
def W_X7_set  (p k : Nat) : Prop := p = 1
def W_X7_shaded  (p k : Nat) : Prop := p = 1 ∨ p = 12 ∨ p = 14 ∨ p = 15
def W_X7_sheet  (p k : Nat) : Prop := 4 ≤ p ∧ p ≤ 6
def W_X7_stall  (p k : Nat) : Prop := p = 1
def W_X7_tell  (p k : Nat) : Prop := (p = 0 ∧ k = 29) ∨ p = 17
def W_X7_text  (p k : Nat) : Prop := (p = 0 ∧ 14 ≤ k ∧ k ≤ 24) ∨ p = 1
def W_X7_textTold (_p _k : Nat) : Prop := False
def W_X7_told  (p k : Nat) : Prop := p = 14 ∨ p = 15
def W_X7_trim  (p k : Nat) : Prop := p = 0 ∧ k = 14
def W_X7_turns  (p k : Nat) : Prop := p = 1
def W_X7_whose  (p k : Nat) : Prop := p = 1 ∨ p = 12 ∨ p = 14 ∨ p = 15
def W_X7_why (_p _k : Nat) : Prop := False
def W_X7_wider  (p k : Nat) : Prop := p = 1 ∨ p = 12 ∨ p = 14 ∨ p = 15
def W_X7_without  (p k : Nat) : Prop := p = 1 ∨ p = 12 ∨ p = 14 ∨ p = 15
