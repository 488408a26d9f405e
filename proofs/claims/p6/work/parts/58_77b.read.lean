/-- calls that change nothing that counts -/
theorem ro {o o' : Option (Int32 × zg_S)} {W W' : Nat → Nat → Prop} {σ τ : zg_S} (h : RR σ τ) (hz : z2 o o' (fun r _ r' _ => r = r')) (hw : zw W σ o) (hw' : zw W' τ o') (hW : ∀ p k, W p k → WS p k) (hW' : ∀ p k, W' p k → p = 14 ∨ p = 15) : z2 o o' SM := by
  refine z2_mono (z2_w hz hw hw') (fun r s r' t q => ⟨q.1, ?_⟩)
  obtain ⟨_, a, b⟩ := q
  refine h.same (fun p k hp => a p k (fun z => ?_)) (fun p k h1 h2 => a p k (fun z => ?_)) (fun p k hp => b p k (fun z => ?_)) (funext (fun k => b 1 k (fun z => ?_)))
  · have := hW p k z
    unfold WS at this
    unfold sideC at hp
    omega
  · have := hW p k z
    unfold WS at this
    omega
  · have := hW' p k z
    unfold sideM at hp
    omega
  · have := hW' 1 k z
    omega
theorem W0 {W : Nat → Nat → Prop} (h : ∀ p k, ¬ W p k) : ∀ p k, W p k → WS p k := fun p k z => absurd z (h p k)
theorem W1 {W : Nat → Nat → Prop} (h : ∀ p k, ¬ W p k) : ∀ p k, W p k → p = 14 ∨ p = 15 := fun p k z => absurd z (h p k)
theorem c_worth (q : Nat) (σ : zg_S) : f_X4_worth q σ = some (sWth (σ q 0) (σ q 3), σ) := by
  unfold f_X4_worth sWth
  by_cases h1 : σ q 0 = 1
  · rw [if_pos h1, if_pos h1]
  rw [if_neg h1, if_neg h1]
  by_cases h2 : σ q 0 = 2
  · rw [if_pos h2, if_pos h2]
  rw [if_neg h2, if_neg h2]
  by_cases h3 : σ q 0 = 3
  · rw [if_pos h3, if_pos h3]
  rw [if_neg h3, if_neg h3]
  by_cases h4 : σ q 0 = 4
  · rw [if_pos h4, if_pos h4]
  rw [if_neg h4, if_neg h4]
  by_cases h5 : σ q 0 = 5
  · rw [if_pos h5, if_pos h5]
  rw [if_neg h5, if_neg h5]
theorem zt_91 : (91 : Int32).toInt = 91 := by decide
theorem r_worth {a : Int32} {τ : zg_S} {g : Nat → Int32} {n : Nat} (h1 : τ 1 = g) (ha : a.toInt = n) (hn : n ≤ 8) (hp : 0 ≤ (g (11 + 4 * n + 3)).toInt ∧ (g (11 + 4 * n + 3)).toInt ≤ 99) : f_X7_worth a τ = some (sWth (g (11 + 4 * n)) (g (11 + 4 * n + 3)), τ) := by
  have e8 := zt_8
  have e99 := zt_99
  have e91 := zt_91
  unfold f_X7_worth sWth
  rw [r_of h1 ha hn zt_3 (by decide), zbd_s, r_of h1 ha hn zt_0 (by decide), zbd_s]
  by_cases h1 : g (11 + 4 * n) = 1
  · rw [if_pos (show g (11 + 4 * n + 0) = 1 from h1), if_pos h1]
  rw [if_neg (show ¬ g (11 + 4 * n + 0) = 1 from h1), if_neg h1]
  by_cases h2 : g (11 + 4 * n) = 2
  · rw [if_pos (show g (11 + 4 * n + 0) = 2 from h2), if_pos h2]
  rw [if_neg (show ¬ g (11 + 4 * n + 0) = 2 from h2), if_neg h2]
  by_cases h3 : g (11 + 4 * n) = 3
  · rw [if_pos (show g (11 + 4 * n + 0) = 3 from h3), if_pos h3]
  rw [if_neg (show ¬ g (11 + 4 * n + 0) = 3 from h3), if_neg h3]
  by_cases h4 : g (11 + 4 * n) = 4
  · rw [if_pos (show g (11 + 4 * n + 0) = 4 from h4), if_pos h4]
    have a1 := zTsub (zTl zt_91) (zTs (g (11 + 4 * n + 3))) (by omega) (by omega)
    have a2 := zTsub (zTsub (zTl zt_99) (zTs (g (11 + 4 * n + 3))) (by omega) (by omega)) (zTl zt_8) (by omega) (by omega)
    rw [show (91 - g (11 + 4 * n + 3)) = (99 - g (11 + 4 * n + 3)) - 8 from Int32.toInt_inj.mp (by rw [zTe a1, zTe a2]; omega)]
  rw [if_neg (show ¬ g (11 + 4 * n + 0) = 4 from h4), if_neg h4]
  by_cases h5 : g (11 + 4 * n) = 5
  · rw [if_pos (show g (11 + 4 * n + 0) = 5 from h5), if_pos h5]
  rw [if_neg (show ¬ g (11 + 4 * n + 0) = 5 from h5), if_neg h5]
theorem v_told {σ τ : zg_S} (h : RR σ τ) (a b : Int32) : z2 (f_X6_told a b σ) (f_X7_told a b τ) SM := by
  refine ro h ?_ (w_X6_told a b σ) (w_X7_told a b τ) (fun p k z => z) (fun p k z => z)
  have o := h.1.2.2.1
  unfold f_X6_told f_X7_told
  refine z2_stall h (z2_pL rfl (z2_pR rfl (z2_some rfl))) (fun n hn hk h8 => ?_)
  refine z2_nL one_ne (z2_nR one_ne ?_)
  have en : a.toNatClampNeg = n := zTn (zTl hn) rfl
  refine z2_pL (zin_mk (by omega) (by omega)) ?_
  rw [en]
  have rd : ∀ (j : Nat) (b' : Int32), b'.toInt = j → j < 4 → z2 (some (σ (154 + 2 + n) j, σ)) (B_X7_told_56 a b' τ) (fun r _ r' _ => r = r') := fun j b' hb hj => by
    unfold B_X7_told_56
    exact z2_eR (r_of rfl hn h8 hb (by omega)) (z2_some (h.s n j hk hj))
  refine z2_iL (fun hb => ?_) (fun hb0 => ?_)
  · subst hb
    exact z2_pR rfl (rd 0 0 zt_0 (by decide))
  refine z2_nR hb0 (z2_iL (fun hb => ?_) (fun hb1 => ?_))
  · subst hb
    exact z2_pR rfl (rd 1 1 zt_1 (by decide))
  refine z2_nR hb1 (z2_iL (fun hb => ?_) (fun hb2 => ?_))
  · subst hb
    exact z2_pR rfl (rd 2 2 zt_2 (by decide))
  refine z2_nR hb2 (z2_iL (fun hb => ?_) (fun hb3 => ?_))
  · subst hb
    exact z2_pR rfl (rd 3 3 zt_3 (by decide))
  refine z2_nR hb3 (z2_iL (fun hb => ?_) (fun hb4 => ?_))
  · subst hb
    refine z2_pR rfl ?_
    refine z2_cL (c_lossOf h.1.1 h.1.2.1 o (by decide) n hk) (fun r s hp => ?_)
    refine z2_cR (r_spoils rfl o h.1.2.1.tv hn hk) (fun r' t hp' => ?_)
    exact z2_some (hp.1.trans hp'.1.symm)
  refine z2_nR hb4 (z2_iL (fun hb => ?_) (fun hb5 => ?_))
  · subst hb
    refine z2_pR rfl ?_
    rw [h.s n 1 hk (by decide)]
    refine z2_eL (c_shades h.1.1 _) (z2_eR (r_shaded rfl o hn hk) ?_)
    refine z2_iL (fun hz => z2_pR hz (z2_some rfl)) (fun hz => z2_nR hz (z2_some rfl))
  refine z2_nR hb5 (z2_iL (fun hb => ?_) (fun hb6 => ?_))
  · subst hb
    refine z2_pR rfl ?_
    refine z2_eL (c_worth _ _) (z2_eR (r_worth rfl hn h8 (o.2.1 n hk).2.2.2) ?_)
    refine z2_some ?_
    rw [h.s n 3 hk (by decide), show σ (154 + 2 + n) 0 = τ 1 (11 + 4 * n) from h.s n 0 hk (by decide)]
  · exact z2_nR hb6 (z2_some rfl)
/-! kinds under one another -/
def sIs (own kind : Int32) : Int32 := if own = kind then 1 else (if kind = 0 then 1 else (if kind = 1 then (if own = 3 then 1 else 0) else (if kind = 2 then (if own = 4 then 1 else 0) else 0)))
theorem r_isOf (a b : Int32) (τ : zg_S) : f_X7_isOf a b τ = some (sIs a b, τ) := by
  unfold f_X7_isOf sIs B_X7_isOf_19
  by_cases h1 : a = b
  · rw [if_pos h1, if_pos h1]
  rw [if_neg h1, if_neg h1]
  by_cases h2 : b = 0
  · rw [if_pos h2, if_pos h2]
  rw [if_neg h2, if_neg h2]
  by_cases h3 : b = 1
  · rw [if_pos h3, if_pos h3]
    by_cases h4 : a = 3
    · rw [if_pos h4, if_pos h4]
    · rw [if_neg h4, if_neg h4, if_neg (by rw [h3]; decide)]
  · rw [if_neg h3, if_neg h3]
    by_cases h4 : b = 2
    · rw [if_pos h4, if_pos h4]
      by_cases h5 : a = 4
      · rw [if_pos h5, if_pos h5]
      · rw [if_neg h5, if_neg h5]
    · rw [if_neg h4, if_neg h4]
theorem i6 (k : Int32) (h0 : 0 ≤ k.toInt) (h1 : k.toInt ≤ 5) : k = 0 ∨ k = 1 ∨ k = 2 ∨ k = 3 ∨ k = 4 ∨ k = 5 := by
  rcases i9 k h0 (by omega) with c | c | c | c | c | c | c | c | c
  · exact Or.inl c
  · exact Or.inr (Or.inl c)
  · exact Or.inr (Or.inr (Or.inl c))
  · exact Or.inr (Or.inr (Or.inr (Or.inl c)))
  · exact Or.inr (Or.inr (Or.inr (Or.inr (Or.inl c))))
  · exact Or.inr (Or.inr (Or.inr (Or.inr (Or.inr c))))
  · exact absurd (congrArg Int32.toInt c) (by rw [zt_6]; omega)
  · exact absurd (congrArg Int32.toInt c) (by rw [zt_7]; omega)
  · exact absurd (congrArg Int32.toInt c) (by rw [zt_8]; omega)
theorem zfx {α : Type} {bot : α} {F : α → α} {n : Nat} : zfix bot F (n + 1) = F (zfix bot F n) := rfl
theorem c_isOf_aux (q : Nat) (a k : Int32) (σ : zg_S) (hk : k = 0 ∨ k = 1 ∨ k = 2 ∨ k = 3 ∨ k = 4 ∨ k = 5) (ha : a = 0 ∨ a = 1 ∨ a = 2 ∨ a = 3 ∨ a = 4 ∨ a = 5) (n : Nat) : zfix (fun _ _ _ => none) (B_X4_isOf_7 q a) (n + 5) k 0 σ = some (sIs k a, σ) := by
  rcases hk with rfl | rfl | rfl | rfl | rfl | rfl <;> rcases ha with rfl | rfl | rfl | rfl | rfl | rfl <;> rfl
theorem c_isOf (q : Nat) (a : Int32) (σ : zg_S) (hk : 0 ≤ (σ q 0).toInt ∧ (σ q 0).toInt ≤ 5) (ha : 0 ≤ a.toInt ∧ a.toInt ≤ 5) : f_X4_isOf q a σ = some (sIs (σ q 0) a, σ) := c_isOf_aux q a (σ q 0) σ (i6 _ hk.1 hk.2) (i6 _ ha.1 ha.2) 99995
theorem v_as {σ τ : zg_S} (h : RR σ τ) (a b : Int32) : z2 (f_X6_as a b σ) (f_X7_as a b τ) SM := by
  refine ro h ?_ (w_X6_as a b σ) (w_X7_as a b τ) (W0 (fun _ _ z => z)) (W1 (fun _ _ z => z))
  have e0 := zt_0
  have e5 := zt_5
  have o := h.1.2.2.1
  unfold f_X6_as f_X7_as
  refine z2_stall h (z2_pL rfl (z2_pR rfl (z2_some rfl))) (fun n hn hk h8 => ?_)
  refine z2_nL one_ne (z2_nR one_ne ?_)
  refine z2_within (fun _ => z2_pL rfl (z2_pR rfl (z2_some rfl))) (fun h1 h2 => ?_)
  refine z2_nL one_ne (z2_nR one_ne ?_)
  have en : a.toNatClampNeg = n := zTn (zTl hn) rfl
  refine z2_pL (zin_mk (by omega) (by omega)) ?_
  rw [en]
  have k0 : σ (154 + 2 + n) 0 = τ 1 (11 + 4 * n) := h.s n 0 hk (by decide)
  have kb := (o.2.1 n hk).1
  have ci := c_isOf (154 + 2 + n) b σ (by rw [k0]; exact kb) ⟨by omega, by omega⟩
  rw [k0] at ci
  refine z2_eL ci ?_
  refine z2_eR (r_of rfl hn h8 zt_0 (by decide)) (z2_eR (r_isOf _ _ _) ?_)
  refine z2_iL (fun hz => z2_pR hz (z2_some rfl)) (fun hz => z2_nR hz ?_)
  refine z2_eR (r_of rfl hn h8 zt_3 (by decide)) ?_
  exact z2_some (h.s n 3 hk (by decide))
theorem v_why {σ τ : zg_S} (h : RR σ τ) (a : Int32) : z2 (f_X6_why a σ) (f_X7_why a τ) SM := by
  refine ro h ?_ (w_X6_why a σ) (w_X7_why a τ) (W0 (fun _ _ z => z)) (W1 (fun _ _ z => z))
  have e0 := zt_0
  have e2 := zt_2
  have o := h.1.2.2.1
  unfold f_X6_why f_X7_why
  refine z2_within (fun _ => z2_pL rfl (z2_pR rfl (z2_some rfl))) (fun h1 h2 => ?_)
  refine z2_nL one_ne (z2_nR one_ne ?_)
  refine z2_pL (zin_mk (by omega) (by omega)) ?_
  have hc : σ 155 a.toNatClampNeg = cC (τ 1) a := by
    obtain ⟨x, y, z⟩ := h.1.2.1.1
    rcases i6 a (by omega) (by omega) with c | c | c | c | c | c
    · rw [c]; exact x
    · rw [c]; exact y
    · rw [c]; exact z
    · exact absurd (congrArg Int32.toInt c) (by rw [zt_3]; omega)
    · exact absurd (congrArg Int32.toInt c) (by rw [zt_4]; omega)
    · exact absurd (congrArg Int32.toInt c) (by rw [zt_5]; omega)
  rw [hc]
  refine z2_cR (r_counts a τ (τ 1) rfl o.2.2.1) (fun r t hp => ?_)
  obtain ⟨rfl, rfl⟩ := hp
  unfold f_X7_orNone cC
  by_cases c : 0 ≤ sCt (τ 1) a
  · rw [if_pos c, if_pos c]
    exact z2_some rfl
  · rw [if_neg c, if_neg c]
    exact z2_some rfl
theorem v_textTold {σ τ : zg_S} (h : RR σ τ) (a b : Int32) : z2 (f_X6_textTold a b σ) (f_X7_textTold a b τ) SM := by
  refine ro h ?_ (w_X6_textTold a b σ) (w_X7_textTold a b τ) (W0 (fun _ _ z => z)) (W1 (fun _ _ z => z))
  have e0 := zt_0
  have e1 := zt_1
  have e47 := zt_47
  have e200 := zt_200
  have o := h.1.2.2.1
  have hn := o.2.2.1
  have en : σ 153 4 = τ 1 1 := h.f 1 (by decide)
  have es := zTe (zTsub (zTs (τ 1 1)) (zTl zt_1) (by omega) (by omega))
  unfold f_X6_textTold f_X7_textTold f_X7_isText
  rw [en]
  by_cases c : 0 ≤ a.toInt ∧ a.toInt < (τ 1 1).toInt
  · have nt := ztn c.1
    have ht : (a.toNatClampNeg : Int) < (τ 1 1).toInt := by omega
    obtain ⟨x0, x1, _⟩ := h.1.2.1.2 _ ht
    rw [c_within1 σ (by rw [es, e0]; omega), r_isIn1 τ (by rw [es, e0]; omega), zbd_s, zbd_s, if_neg one_ne]
    refine z2_eR (show (if (1 : Int32) = 0 ∨ (1 : Int32) = 1 then some ((1 : Int32), τ) else none) = some (1, τ) from rfl) (z2_nR one_ne ?_)
    have pT := zTadd (zTl zt_47) (zTmul (zTl zt_200) (zTs a) (by omega) (by omega)) (by omega) (by omega)
    refine z2_iL (fun hb => ?_) (fun hb0 => ?_)
    · subst hb
      refine z2_eR (r_isIn1 τ (by decide)) (z2_nR one_ne (z2_eR (r_textAt _ _) ?_))
      have p0 := zTadd pT (zTl zt_0) (by omega) (by omega)
      refine z2_pL (zin_mk c.1 (by omega)) (z2_pR (zin_mkT p0 (by omega) (by omega)) (z2_some ?_))
      rw [zTn p0 (show (47 + 200 * a.toInt + 0 : Int) = ((47 + 200 * a.toNatClampNeg : Nat) : Int) by omega)]
      exact x0
    · refine z2_iL (fun hb => ?_) (fun hb1 => ?_)
      · subst hb
        refine z2_eR (r_isIn1 τ (by decide)) (z2_nR one_ne (z2_eR (r_textAt _ _) ?_))
        have p0 := zTadd pT (zTl zt_1) (by omega) (by omega)
        refine z2_pL (zin_mk c.1 (by omega)) (z2_pR (zin_mkT p0 (by omega) (by omega)) (z2_some ?_))
        rw [zTn p0 (show (47 + 200 * a.toInt + 1 : Int) = ((47 + 200 * a.toNatClampNeg + 1 : Nat) : Int) by omega)]
        exact x1
      · have g0 := zne hb0
        have g1 := zne hb1
        exact z2_eR (r_isIn0 τ (by omega)) (z2_pR rfl (z2_some rfl))
  · rw [c_within0 σ (by rw [es, e0]; omega), r_isIn0 τ (by rw [es, e0]; omega), zbd_s, zbd_s]
    exact z2_pL rfl (z2_eR (show (if (0 : Int32) = 0 ∨ (0 : Int32) = 1 then some ((0 : Int32), τ) else none) = some (0, τ) from rfl) (z2_pR rfl (z2_some rfl)))
