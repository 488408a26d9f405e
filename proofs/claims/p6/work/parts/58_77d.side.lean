/-! tape, waiting numbers -/
theorem RR.r3 {σ s τ t : zg_S} (h : RR σ τ) (a : ∀ p k, ¬ ((p = 0 ∧ k = 10) ∨ p = 6) → s p k = σ p k) (b : ∀ p k, ¬ ((p = 0 ∧ k = 14) ∨ p = 13) → t p k = τ p k) (c : R3 s t) : RR s t := by
  obtain ⟨h1, h2, _, h4, h5, h6⟩ := h
  have e1 : t 1 = τ 1 := funext (fun k => b 1 k (by omega))
  exact ⟨by rw [e1]; exact bz_wr h1 (by decide) (fun q k _ _ => a q k (by omega)) (fun q k _ _ _ => a q k (by omega)), h2.k (a 0 12 (by omega)) (b 0 3 (by omega)) (funext (fun k => b 2 k (by omega))) (by rw [e1]; exact Int.le_refl _) (fun q k _ _ => a q k (by omega)) (fun q k _ _ _ => a q k (by omega)), c, h4.k (a 0 11 (by omega)) (b 0 29 (by omega)) (fun k => a 5 k (by omega)) (fun k => b 17 k (by omega)), h5.k (fun q k _ _ => a q k (by omega)) (fun k => b 4 k (by omega)) (fun k => b 5 k (by omega)) (fun k => b 6 k (by omega)), h6.k (fun q k _ _ => a q k (by omega)) (fun p k _ _ => b p k (by omega))⟩
theorem RR.r4 {σ s τ t : zg_S} (h : RR σ τ) (a : ∀ p k, ¬ ((p = 0 ∧ k = 11) ∨ p = 5) → s p k = σ p k) (b : ∀ p k, ¬ ((p = 0 ∧ k = 29) ∨ p = 17) → t p k = τ p k) (c : R4 s t) : RR s t := by
  obtain ⟨h1, h2, h3, _, h5, h6⟩ := h
  have e1 : t 1 = τ 1 := funext (fun k => b 1 k (by omega))
  exact ⟨by rw [e1]; exact bz_wr h1 (by decide) (fun q k _ _ => a q k (by omega)) (fun q k _ _ _ => a q k (by omega)), h2.k (a 0 12 (by omega)) (b 0 3 (by omega)) (funext (fun k => b 2 k (by omega))) (by rw [e1]; exact Int.le_refl _) (fun q k _ _ => a q k (by omega)) (fun q k _ _ _ => a q k (by omega)), h3.k (a 0 10 (by omega)) (b 0 14 (by omega)) (fun k => a 6 k (by omega)) (fun k => b 13 k (by omega)), c, h5.k (fun q k _ _ => a q k (by omega)) (fun k => b 4 k (by omega)) (fun k => b 5 k (by omega)) (fun k => b 6 k (by omega)), h6.k (fun q k _ _ => a q k (by omega)) (fun p k _ _ => b p k (by omega))⟩
theorem RR.r5 {σ s τ t : zg_S} (h : RR σ τ) (a : ∀ p k, ¬ (53 ≤ p ∧ p ≤ 60) → s p k = σ p k) (b : ∀ p k, ¬ ((4 ≤ p ∧ p ≤ 6) ∨ p = 16) → t p k = τ p k) (c : R5 s t) : RR s t := by
  obtain ⟨h1, h2, h3, h4, _, h6⟩ := h
  have e1 : t 1 = τ 1 := funext (fun k => b 1 k (by omega))
  exact ⟨by rw [e1]; exact bz_wr h1 (by decide) (fun q k _ _ => a q k (by omega)) (fun q k _ _ _ => a q k (by omega)), h2.k (a 0 12 (by omega)) (b 0 3 (by omega)) (funext (fun k => b 2 k (by omega))) (by rw [e1]; exact Int.le_refl _) (fun q k _ _ => a q k (by omega)) (fun q k _ _ _ => a q k (by omega)), h3.k (a 0 10 (by omega)) (b 0 14 (by omega)) (fun k => a 6 k (by omega)) (fun k => b 13 k (by omega)), h4.k (a 0 11 (by omega)) (b 0 29 (by omega)) (fun k => a 5 k (by omega)) (fun k => b 17 k (by omega)), c, h6.k (fun q k _ _ => a q k (by omega)) (fun p k _ _ => b p k (by omega))⟩
theorem RR.r6 {σ s τ t : zg_S} (h : RR σ τ) (a : ∀ p k, ¬ (61 ≤ p ∧ p ≤ 80) → s p k = σ p k) (b : ∀ p k, ¬ (7 ≤ p ∧ p ≤ 11) → t p k = τ p k) (c : R6 s t) : RR s t := by
  obtain ⟨h1, h2, h3, h4, h5, _⟩ := h
  have e1 : t 1 = τ 1 := funext (fun k => b 1 k (by omega))
  exact ⟨by rw [e1]; exact bz_wr h1 (by decide) (fun q k _ _ => a q k (by omega)) (fun q k _ _ _ => a q k (by omega)), h2.k (a 0 12 (by omega)) (b 0 3 (by omega)) (funext (fun k => b 2 k (by omega))) (by rw [e1]; exact Int.le_refl _) (fun q k _ _ => a q k (by omega)) (fun q k _ _ _ => a q k (by omega)), h3.k (a 0 10 (by omega)) (b 0 14 (by omega)) (fun k => a 6 k (by omega)) (fun k => b 13 k (by omega)), h4.k (a 0 11 (by omega)) (b 0 29 (by omega)) (fun k => a 5 k (by omega)) (fun k => b 17 k (by omega)), h5.k (fun q k _ _ => a q k (by omega)) (fun k => b 4 k (by omega)) (fun k => b 5 k (by omega)) (fun k => b 6 k (by omega)), c⟩
theorem v_tell {σ τ : zg_S} (h : RR σ τ) (hM : IMc τ) (a : Int32) : z2 (f_X6_tell a σ) (f_X7_tell a τ) SM := by
  have f29 : 0 ≤ (τ 0 29).toInt ∧ (τ 0 29).toInt ≤ 60 := hM 0 29
  have e60 := zt_60
  have e1 := zt_1
  obtain ⟨hw, hv⟩ := h.2.2.2.1
  have na := ztn f29.1
  unfold f_X6_tell f_X7_tell
  rw [hw]
  refine z2_iL (fun hc => ?_) (fun hc => ?_)
  · have gc := zlt hc
    refine z2_nR (fun z => by have := zeq z; omega) ?_
    have zi : zin (τ 0 29) 60 = true := zin_mk f29.1 (by omega)
    refine z2_pL zi (z2_pR zi ?_)
    refine z2_lL (fun s1 q1 => z2_lL (fun s2 q2 => z2_lR (fun t1 p1 => z2_lR (fun t2 p2 => ?_))))
    have k1 : s1 0 11 = τ 0 29 := by rw [q1]; exact (congrFun (zup_ne rfl) 11).trans hw
    have k2 : t1 0 29 = τ 0 29 := by rw [p1]; exact congrFun (zup_ne rfl) 29
    rw [k1] at q2
    rw [k2] at p2
    have m1 : s2 0 11 = τ 0 29 + 1 := by rw [q2]; exact zgot
    have m2 : t2 0 29 = τ 0 29 + 1 := by rw [p2]; exact zgot
    refine z2_some ⟨by rw [m1, m2], h.r4 (fun p k hp => ?_) (fun p k hp => ?_) ⟨by rw [m1, m2], fun i hi => ?_⟩⟩
    · rw [q2, q1]
      by_cases e : p = 0
      · subst e
        exact (zkeepn (by omega)).trans (congrFun (zup_ne rfl) k)
      · exact (congrFun (zg_row_ne e) k).trans (congrFun (zg_row_ne (by omega)) k)
    · rw [p2, p1]
      by_cases e : p = 0
      · subst e
        exact (zkeepn (by omega)).trans (congrFun (zup_ne rfl) k)
      · exact (congrFun (zg_row_ne e) k).trans (congrFun (zg_row_ne (by omega)) k)
    · have ea := zTe (zTadd (zTs (τ 0 29)) (zTl zt_1) (by omega) (by omega))
      rw [m2, ea] at hi
      have x1 : s2 5 = upd (σ 5) (τ 0 29).toNatClampNeg a := by rw [q2, q1]; exact (zup_ne rfl).trans zg_row_eq
      have x2 : t2 17 = upd (τ 17) (τ 0 29).toNatClampNeg a := by rw [p2, p1]; exact (zup_ne rfl).trans zg_row_eq
      rw [x1, x2]
      by_cases e : i = (τ 0 29).toNatClampNeg
      · rw [e, pk_us, pk_us]
      · rw [pk_un e, pk_un e]
        exact hv i (by omega)
  · have gc := znlt hc
    exact z2_pR (Int32.toInt_inj.mp (by omega)) (z2_some (SM.rf h))
theorem v_trim {σ τ : zg_S} (h : RR σ τ) (a : Int32) : z2 (f_X6_trim a σ) (f_X7_trim a τ) SM := by
  have e0 := zt_0
  obtain ⟨hw, hv⟩ := h.2.2.1
  unfold f_X6_trim f_X7_trim
  rw [hw]
  refine z2_within (fun _ => z2_pL rfl (z2_pR rfl (z2_some (SM.rf h)))) (fun h1 h2 => z2_nL one_ne (z2_nR one_ne ?_))
  refine z2_lL (fun s q => z2_lR (fun t p => z2_some ⟨rfl, h.r3 (fun x k hx => ?_) (fun x k hx => ?_) ⟨?_, fun i hi => ?_⟩⟩))
  · rw [q]
    by_cases e : x = 0
    · subst e
      exact zkeepn (by omega)
    · exact congrFun (zg_row_ne e) k
  · rw [p]
    by_cases e : x = 0
    · subst e
      exact zkeepn (by omega)
    · exact congrFun (zg_row_ne e) k
  · rw [q, p]
    exact zgot.trans zgot.symm
  · rw [p, zgot] at hi
    rw [q, p, show zg_up σ 0 10 a 6 = σ 6 from zup_ne rfl, show zg_up τ 0 14 a 13 = τ 13 from zup_ne rfl]
    exact hv i (by omega)
/-! questions to slots -/
theorem z2_slot {σ τ : zg_S} {a : Int32} {k k' : Int32 → zg_S → Option (Int32 × zg_S)} {P : Int32 → zg_S → Int32 → zg_S → Prop} (h0 : z2 (k 0 σ) (k' 0 τ) P) (h1 : ∀ n : Nat, a.toInt = n → n < 5 → a.toNatClampNeg = n → zin a 5 = true → z2 (k 1 σ) (k' 1 τ) P) : z2 (zbd (f_X6_isSlot a σ) k) (zbd (f_X7_isSlot a τ) k') P := by
  have e0 := zt_0
  have e4 := zt_4
  by_cases c : 0 ≤ a.toInt ∧ a.toInt ≤ 4
  · have i1 : f_X6_isSlot a σ = some (1, σ) := by
      unfold f_X6_isSlot
      rw [c_within1 σ (by rw [e0, e4]; exact c)]
      rfl
    have i2 : f_X7_isSlot a τ = some (1, τ) := by
      unfold f_X7_isSlot
      rw [r_isIn1 τ (by rw [e0, e4]; exact c)]
      rfl
    exact z2_eL i1 (z2_eR i2 (h1 a.toInt.toNat (by omega) (by omega) (zTn (zTs a) (by omega)) (zin_mk c.1 (by omega))))
  · have i1 : f_X6_isSlot a σ = some (0, σ) := by
      unfold f_X6_isSlot
      rw [c_within0 σ (by rw [e0, e4]; exact c)]
      rfl
    have i2 : f_X7_isSlot a τ = some (0, τ) := by
      unfold f_X7_isSlot
      rw [r_isIn0 τ (by rw [e0, e4]; exact c)]
      rfl
    exact z2_eL i1 (z2_eR i2 h0)
theorem z2_sheet {σ τ : zg_S} {a : Int32} {k k' : Int32 → zg_S → Option (Int32 × zg_S)} {P : Int32 → zg_S → Int32 → zg_S → Prop} (h0 : z2 (k 0 σ) (k' 0 τ) P) (h1 : ∀ n : Nat, a.toInt = n → n < 4 → a.toNatClampNeg = n → zin a 4 = true → z2 (k 1 σ) (k' 1 τ) P) : z2 (zbd (f_X6_isSheet a σ) k) (zbd (f_X7_isSheet a τ) k') P := by
  have e0 := zt_0
  have e3 := zt_3
  by_cases c : 0 ≤ a.toInt ∧ a.toInt ≤ 3
  · have i1 : f_X6_isSheet a σ = some (1, σ) := by
      unfold f_X6_isSheet
      rw [c_within1 σ (by rw [e0, e3]; exact c)]
      rfl
    have i2 : f_X7_isSheet a τ = some (1, τ) := by
      unfold f_X7_isSheet
      rw [r_isIn1 τ (by rw [e0, e3]; exact c)]
      rfl
    exact z2_eL i1 (z2_eR i2 (h1 a.toInt.toNat (by omega) (by omega) (zTn (zTs a) (by omega)) (zin_mk c.1 (by omega))))
  · have i1 : f_X6_isSheet a σ = some (0, σ) := by
      unfold f_X6_isSheet
      rw [c_within0 σ (by rw [e0, e3]; exact c)]
      rfl
    have i2 : f_X7_isSheet a τ = some (0, τ) := by
      unfold f_X7_isSheet
      rw [r_isIn0 τ (by rw [e0, e3]; exact c)]
      rfl
    exact z2_eL i1 (z2_eR i2 h0)
theorem v_rest {σ τ : zg_S} (h : RR σ τ) (a b : Int32) : z2 (f_X6_rest a b σ) (f_X7_rest a b τ) SM := by
  refine ro h ?_ (w_X6_rest a b σ) (w_X7_rest a b τ) (W0 (fun _ _ z => z)) (W1 (fun _ _ z => z))
  unfold f_X6_rest f_X7_rest f_X3_refuses
  refine z2_slot (z2_pL rfl (z2_pR rfl (z2_some rfl))) (fun n hn h5 en zi => z2_nL one_ne (z2_nR one_ne (z2_pL zi (z2_pR zi ?_))))
  rw [en]
  obtain ⟨x, y⟩ := h.2.2.2.2.2 n h5
  rw [x]
  rcases y with y | ⟨y, _⟩ | ⟨y, _⟩ | ⟨y, y1⟩
  · rw [y]
    exact z2_eL rfl (z2_nL (by decide) (z2_nR (by decide) (z2_pR rfl (z2_some rfl))))
  · rw [y]
    exact z2_eL rfl (z2_nL (by decide) (z2_nR (by decide) (z2_nR (by decide) (z2_some rfl))))
  · rw [y]
    exact z2_eL rfl (z2_nL (by decide) (z2_nR (by decide) (z2_nR (by decide) (z2_some rfl))))
  · rw [y]
    refine z2_eL rfl (z2_pL rfl (z2_pR rfl ?_))
    refine z2_iL (fun hb => z2_pR hb (z2_some rfl)) (fun hb => z2_nR hb (z2_nL hb (z2_nR hb (z2_some ?_))))
    rw [y1]
theorem v_ask {σ τ : zg_S} (h : RR σ τ) (a b : Int32) : z2 (f_X6_ask a b σ) (f_X7_ask a b τ) SM := by
  refine ro h ?_ (w_X6_ask a b σ) (w_X7_ask a b τ) (W0 (fun _ _ z => z)) (W1 (fun _ _ z => z))
  have e0 := zt_0
  have e5 := zt_5
  unfold f_X6_ask f_X7_ask f_X3_refuses
  refine z2_slot (z2_pL rfl (z2_pR rfl (z2_some rfl))) (fun n hn h5 en zi => z2_nL one_ne (z2_nR one_ne ?_))
  refine z2_within (fun _ => z2_pL rfl (z2_pR rfl (z2_some rfl))) (fun h1 h2 => z2_nL one_ne (z2_nR one_ne (z2_pL zi (z2_pR zi ?_))))
  rw [en]
  obtain ⟨x, y⟩ := h.2.2.2.2.2 n h5
  rw [x]
  rcases y with y | ⟨y, y1, y2, y3⟩ | ⟨y, _⟩ | ⟨y, _⟩
  · rw [y]
    exact z2_eL rfl (z2_nL (by decide) (z2_pR rfl (z2_some rfl)))
  · rw [y]
    refine z2_eL rfl (z2_pL rfl (z2_nR (by decide) (z2_pR rfl ?_)))
    have ci := c_isOf (61 + 4 * n + 1) b σ (by rw [y1]; exact y3) ⟨by omega, by omega⟩
    rw [y1] at ci
    refine z2_eL ci (z2_eR (r_isOf _ _ _) ?_)
    refine z2_iL (fun hz => z2_pR hz (z2_some rfl)) (fun hz => z2_nR hz (z2_eL (c_worth _ _) (z2_some y2)))
  · rw [y]
    exact z2_eL rfl (z2_nL (by decide) (z2_nR (by decide) (z2_nR (by decide) (z2_some rfl))))
  · rw [y]
    exact z2_eL rfl (z2_nL (by decide) (z2_nR (by decide) (z2_nR (by decide) (z2_some rfl))))
theorem c_hasPlace1 {q : Nat} {a : Int32} {σ : zg_S} (hl : 0 ≤ (σ q 1).toInt) (h : 0 ≤ a.toInt ∧ a.toInt < (σ q 1).toInt) : f_X2_hasPlace q a σ = some (1, σ) := by
  have e0 := zt_0
  have e1 := zt_1
  have hb := Int32.toInt_lt (σ q 1)
  have e := zTe (zTsub (zTs (σ q 1)) (zTl zt_1) (by omega) (by omega))
  unfold f_X2_hasPlace
  rw [c_within1 σ ⟨by omega, by rw [e]; omega⟩]
  rfl
theorem c_hasPlace0 {q : Nat} {a : Int32} {σ : zg_S} (hl : 0 ≤ (σ q 1).toInt) (h : ¬ (0 ≤ a.toInt ∧ a.toInt < (σ q 1).toInt)) : f_X2_hasPlace q a σ = some (0, σ) := by
  have e0 := zt_0
  have e1 := zt_1
  have hb := Int32.toInt_lt (σ q 1)
  have e := zTe (zTsub (zTs (σ q 1)) (zTl zt_1) (by omega) (by omega))
  unfold f_X2_hasPlace
  rw [c_within0 σ (by rw [e]; omega)]
  rfl
/-- the reference's way to ask for a place -/
theorem r_place1 {a n : Int32} {τ : zg_S} (hl : 0 ≤ n.toInt) (h : 0 ≤ a.toInt ∧ a.toInt < n.toInt) : f_X7_isIn (Int32.toInt64 a) (Int32.toInt64 0) (Int32.toInt64 (n - 1)) τ = some (1, τ) := by
  have e0 := zt_0
  have e1 := zt_1
  have hb := Int32.toInt_lt n
  have e := zTe (zTsub (zTs n) (zTl zt_1) (by omega) (by omega))
  exact r_isIn1 τ ⟨by omega, by rw [e]; omega⟩
theorem r_place0 {a n : Int32} {τ : zg_S} (hl : 0 ≤ n.toInt) (h : ¬ (0 ≤ a.toInt ∧ a.toInt < n.toInt)) : f_X7_isIn (Int32.toInt64 a) (Int32.toInt64 0) (Int32.toInt64 (n - 1)) τ = some (0, τ) := by
  have e0 := zt_0
  have e1 := zt_1
  have hb := Int32.toInt_lt n
  have e := zTe (zTsub (zTs n) (zTl zt_1) (by omega) (by omega))
  exact r_isIn0 τ (by rw [e]; omega)
theorem v_item {σ τ : zg_S} (h : RR σ τ) (hM : IMc τ) (a b : Int32) : z2 (f_X6_item a b σ) (f_X7_item a b τ) SM := by
  refine ro h ?_ (w_X6_item a b σ) (w_X7_item a b τ) (W0 (fun _ _ z => z)) (W1 (fun _ _ z => z))
  have e24 := zt_24
  unfold f_X6_item f_X7_item f_X3_refuses
  refine z2_slot (z2_pL rfl (z2_pR rfl (z2_some rfl))) (fun n hn h5 en zi => z2_nL one_ne (z2_nR one_ne (z2_pL zi (z2_pR zi ?_))))
  rw [en]
  have f10 : 0 ≤ (τ 10 n).toInt ∧ (τ 10 n).toInt ≤ 24 := hM 10 n
  obtain ⟨x, y⟩ := h.2.2.2.2.2 n h5
  rw [x]
  rcases y with y | ⟨y, _⟩ | ⟨y, y1, y2⟩ | ⟨y, _⟩
  · rw [y]
    exact z2_eL rfl (z2_nL (by decide) (z2_nR (by decide) (z2_pR rfl (z2_some rfl))))
  · rw [y]
    exact z2_eL rfl (z2_nL (by decide) (z2_nR (by decide) (z2_nR (by decide) (z2_some rfl))))
  · rw [y]
    refine z2_eL rfl (z2_pL rfl (z2_pR rfl ?_))
    by_cases c : 0 ≤ b.toInt ∧ b.toInt < (τ 10 n).toInt
    · have nb := ztn c.1
      have hp := c_hasPlace1 (q := 61 + 4 * n + 2) (a := b) (σ := σ) (by rw [y1]; exact f10.1) (by rw [y1]; exact c)
      refine z2_eL hp (z2_nL one_ne ?_)
      refine z2_eR (r_place1 f10.1 c) (z2_nR one_ne ?_)
      have pi := zTadd (zTmul (zTl zt_24) (zTs a) (by omega) (by omega)) (zTs b) (by omega) (by omega)
      have ii := zTn pi (show (24 * a.toInt + b.toInt : Int) = ((24 * n + b.toNatClampNeg : Nat) : Int) by omega)
      have zb : zin b 24 = true := zin_mk c.1 (by omega)
      have yv := y2 b.toNatClampNeg (by omega)
      have hN : f_X2_hasNumber (61 + 4 * n + 2) b σ = some (if τ 11 (24 * n + b.toNatClampNeg) = -1000000005 then 0 else 1, σ) := by
        unfold f_X2_hasNumber
        rw [hp, zbd_s, if_neg one_ne, if_pos zb, yv]
        by_cases d : τ 11 (24 * n + b.toNatClampNeg) = -1000000005
        · rw [if_pos d, if_pos d]
        · rw [if_neg d, if_neg d]
      refine z2_eL hN (z2_pR (zin_mkT pi (by omega) (by omega)) (z2_lR (fun v ev => ?_)))
      rw [ii] at ev
      rw [ev]
      by_cases d : τ 11 (24 * n + b.toNatClampNeg) = -1000000005
      · rw [if_pos d]
        exact z2_pL rfl (z2_pR d (z2_some rfl))
      · rw [if_neg d]
        exact z2_nL one_ne (z2_nR d (z2_pL zb (z2_some yv)))
    · refine z2_eL (c_hasPlace0 (by rw [y1]; exact f10.1) (by rw [y1]; exact c)) (z2_pL rfl ?_)
      exact z2_eR (r_place0 f10.1 c) (z2_pR rfl (z2_some rfl))
  · rw [y]
    exact z2_eL rfl (z2_nL (by decide) (z2_nR (by decide) (z2_nR (by decide) (z2_some rfl))))
