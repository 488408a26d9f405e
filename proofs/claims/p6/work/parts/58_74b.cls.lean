/-! the class's bazaar at p, as g tells it -/
theorem c_within1 {a b c : Int32} (σ : zg_S) (h : b.toInt ≤ a.toInt ∧ a.toInt ≤ c.toInt) : f_X6_within a b c σ = some (1, σ) := by
  unfold f_X6_within
  rw [if_neg (fun z => by have := zlt z; omega), if_neg (fun z => by have := zlt z; omega)]
theorem c_within0 {a b c : Int32} (σ : zg_S) (h : ¬ (b.toInt ≤ a.toInt ∧ a.toInt ≤ c.toInt)) : f_X6_within a b c σ = some (0, σ) := by
  unfold f_X6_within
  by_cases d : a < b
  · rw [if_pos d]
  · rw [if_neg d]
    have := znlt d
    rw [if_pos (Int32.lt_iff_toInt_lt.mpr (by omega))]
theorem c_held (a lo hi : Int32) (σ : zg_S) : f_X6_held a lo hi σ = some (sHeld a lo hi, σ) := rfl
section
variable {σ : zg_S} {p : Nat} {g : Nat → Int32}
theorem c_slant (h : EQB σ p g) : f_X0_slant p σ = some (sO g, σ) := by
  unfold f_X0_slant
  rw [show σ p 7 = g 2 from h.f 2 (by decide)]
  rfl
theorem c_wouldShade (h : EQB σ p g) (F pl : Int32) : f_X0_wouldShade p F pl σ = some (sShd g F pl, σ) := by
  unfold f_X0_wouldShade
  rw [c_slant h]
  show (if pl < (F + sO g) then some ((0 : Int32), σ) else (if ((F + sO g) + (σ p 5)) ≤ pl then some (0, σ) else some (1, σ))) = _
  rw [show σ p 5 = g 8 from h.f 8 (by decide)]
  unfold sShd
  by_cases c : pl < F + sO g
  · rw [if_pos c, if_pos c]
  · rw [if_neg c, if_neg c]
    by_cases d : (F + sO g) + g 8 ≤ pl
    · rw [if_pos d, if_pos d]
    · rw [if_neg d, if_neg d]
theorem c_shades (h : EQB σ p g) (pl : Int32) : f_X0_shades p pl σ = some (sShd g (g 7) pl, σ) := by
  unfold f_X0_shades
  rw [show σ p 6 = g 7 from h.f 7 (by decide), c_wouldShade h]
  show (if sShd g (g 7) pl = 0 ∨ sShd g (g 7) pl = 1 then some (sShd g (g 7) pl, σ) else none) = _
  rw [if_pos (sShd_01 _ _ _)]
theorem c_heat (h : EQB σ p g) : f_X0_heat p σ = some (sHeat g, σ) := by
  unfold f_X0_heat
  rw [show σ p 7 = g 2 from h.f 2 (by decide)]
  rfl
theorem c_lastFirst (h : EQB σ p g) : f_X0_lastFirst p σ = some (12 - g 8, σ) := by
  unfold f_X0_lastFirst
  rw [show σ p 5 = g 8 from h.f 8 (by decide)]
theorem c_hauledTo (h : EQB σ p g) (mv : Int32) : f_X0_hauledTo p mv σ = some (sTo g mv, σ) := by
  unfold f_X0_hauledTo
  rw [show σ p 6 = g 7 from h.f 7 (by decide), c_lastFirst h]
  unfold sTo
  by_cases c : mv = 1
  · rw [if_pos c, if_pos c]
    rfl
  · rw [if_neg c, if_neg c]
    by_cases d : mv = 2
    · rw [if_pos d, if_pos d]
      rfl
    · rw [if_neg d, if_neg d]
theorem c_sunLoss (q : Nat) (a : Int32) : f_X4_sunLoss q a σ = some (sSun (σ q 0) a, σ) := by
  unfold f_X4_sunLoss sSun
  by_cases h1 : σ q 0 = 1
  · rw [if_pos h1, if_pos h1]
  rw [if_neg h1, if_neg h1]
  by_cases h2 : σ q 0 = 2
  · rw [if_pos h2, if_pos h2]
  rw [if_neg h2, if_neg h2]
  by_cases h3 : σ q 0 = 3
  · rw [if_pos h3, if_pos h3]
  rw [if_neg h3, if_neg h3]
  by_cases h4 : σ q 0 = 4
  · rw [if_pos h4, if_pos h4]
  rw [if_neg h4, if_neg h4]
  by_cases h5 : σ q 0 = 5
  · rw [if_pos h5, if_pos h5]
  rw [if_neg h5, if_neg h5]
theorem c_plainLoss (h : EQB σ p g) (hT : TXR σ p g) (o : gOK g) (q k : Nat) (hq : 53 ≤ q) (q2 : σ q 2 = g (11 + 4 * k + 2)) (q3 : σ q 3 = g (11 + 4 * k + 3)) : zk (f_X0_plainLoss p q σ) (fun r s => r = sPl g k ∧ wr WS σ s) := by
  obtain ⟨hB, hS, hn, hW, h96⟩ := o
  have e0 := zt_0
  have e13 := zt_13
  have nn := ztn hn.1
  unfold f_X0_plainLoss sPl
  rw [hT.1.1]
  have hb := sCn_b g 0 (g 1).toNatClampNeg (by omega)
  by_cases c : 0 ≤ sCt g 0
  · have ec : cC g 0 = sCt g 0 := by unfold cC; rw [if_pos c]
    have c0 := zle c
    have ht : (sCt g 0).toInt < (g 1).toInt := by have := hb.2.1; show (sCn g 0 (g 1).toNatClampNeg).toInt < _; omega
    have nt := ztn (i := sCt g 0) (by omega)
    rw [ec, if_pos c]
    refine zk_e (c_within1 σ ⟨by omega, by omega⟩) ?_
    refine zk_ite (fun z => absurd z (by decide)) (fun _ => ?_)
    refine zk_in (zin_mk (by omega) (by omega)) ?_
    refine zk_e (c_heat h) ?_
    have htt : ((sCt g 0).toNatClampNeg : Int) < (g 1).toInt := by omega
    rw [q2, q3]
    refine zk_call (zk_w (c_workOut (sCt g 0).toNatClampNeg (sHeat g) (g (11 + 4 * k + 2)) (g (11 + 4 * k + 3)) σ g (hT.2 _ htt) (hW _ htt) (h96 _ htt)) (w_X5_workOut _ _ _ _ σ)) (fun r s hp => ?_)
    obtain ⟨hr, hw⟩ := hp
    have s2 : s q 2 = g (11 + 4 * k + 2) := (hw q 2 (by unfold W_X5_workOut; omega)).trans q2
    rw [s2]
    refine zk_e (c_held _ _ _ _) ?_
    refine zk_some ⟨by rw [hr], wr.tr wr.rf hw (fun p' k' hz => ?_)⟩
    unfold W_X5_workOut at hz
    unfold WS
    omega
  · have ec : cC g 0 = -1000000005 := by unfold cC; rw [if_neg c]
    rw [ec, if_neg c]
    refine zk_e (c_within0 σ (by decide)) ?_
    refine zk_ite (fun _ => ?_) (fun z => absurd rfl z)
    refine zk_e (c_heat h) ?_
    exact zk_some ⟨rfl, wr.rf⟩
theorem eqb_ws {s : zg_S} (h : EQB σ p g) (hp : 53 ≤ p) (hN : (g 0).toInt ≤ 9) (hw : wr WS σ s) : EQB s p g := h.wr hN (fun q k _ _ => hw q k (by unfold WS; omega))
theorem txr_ws {s : zg_S} (h : TXR σ p g) (hp : 53 ≤ p) (hn : (g 1).toInt ≤ 14) (hw : wr WS σ s) : TXR s p g := h.wr hn (fun k => hw _ k (by unfold WS; omega)) (fun q k _ _ _ => hw q k (by unfold WS; omega))
theorem c_lossOf (h : EQB σ p g) (hT : TXR σ p g) (o : gOK g) (hp : 53 ≤ p) (k : Nat) (hk : (k : Int) < (g 0).toInt) : zk (f_X0_lossOf p (p + 1 + 2 + k) σ) (fun r s => r = sLs g k ∧ wr WS σ s) := by
  have q0 : σ (p + 1 + 2 + k) 0 = g (11 + 4 * k) := h.2 k 0 hk (by decide)
  have q1 := h.2 k 1 hk (by decide)
  have q2 := h.2 k 2 hk (by decide)
  have q3 := h.2 k 3 hk (by decide)
  unfold f_X0_lossOf sLs
  rw [q2, q1]
  by_cases c : g (11 + 4 * k + 2) = 0
  · rw [if_pos c, if_pos c]
    exact zk_some ⟨rfl, wr.rf⟩
  rw [if_neg c, if_neg c]
  refine zk_e (c_shades h _) ?_
  by_cases d : sShd g (g 7) (g (11 + 4 * k + 1)) = 0
  · rw [if_pos d, if_pos d]
    refine zk_call (c_plainLoss h hT o (p + 1 + 2 + k) k (by omega) q2 q3) (fun r s hp' => ?_)
    obtain ⟨hr, hw⟩ := hp'
    refine zk_e (c_sunLoss _ _) ?_
    unfold B_X0_lossOf_36
    have s0 : s (p + 1 + 2 + k) 0 = g (11 + 4 * k) := (hw _ 0 (by unfold WS; omega)).trans q0
    have s2 : s (p + 1 + 2 + k) 2 = g (11 + 4 * k + 2) := (hw _ 2 (by unfold WS; omega)).trans q2
    rw [s0, s2, hr]
    exact zk_let (fun y ey => zk_some ⟨ey, hw⟩)
  · rw [if_neg d, if_neg d]
    have e : f_X4_shadeLoss (p + 1 + 2 + k) σ = some (if g (11 + 4 * k) = 4 then 2 else 0, σ) := by
      unfold f_X4_shadeLoss
      rw [q0]
      by_cases e4 : g (11 + 4 * k) = 4
      · rw [if_pos e4, if_pos e4]
      · rw [if_neg e4, if_neg e4]
    refine zk_e e ?_
    unfold B_X0_lossOf_36
    rw [q2]
    exact zk_let (fun y ey => zk_some ⟨ey, wr.rf⟩)
theorem c_byLoss (h : EQB σ p g) (hT : TXR σ p g) (o : gOK g) (hp : 53 ≤ p) : zk (f_X0_haulingByLoss p σ) (fun r s => r = (sBL g (g 0).toNatClampNeg).1 ∧ wr WS σ s) := by
  obtain ⟨hN, _⟩ := o.1
  have e0 := zt_0
  have e1 := zt_1
  have nn := ztn hN.1
  unfold f_X0_haulingByLoss L_X0_haulingByLoss_6
  refine zl_III (fun (x1 x2 x3 : Int32) (s : zg_S) => wr WS σ s ∧ ∃ i : Nat, x3.toInt = i ∧ (i : Int) ≤ (g 0).toInt ∧ (x1, x2) = sBL g i) (fun (_ _ x3 : Int32) (_ : zg_S) => (9 - x3.toInt).toNat) ?_ zfu _ _ _ _ ⟨wr.rf, 0, e0, by omega, rfl⟩ (by unfold zfu; omega)
  intro rec x1 x2 x3 s hI ih
  obtain ⟨hw, i, hi, hi2, hx⟩ := hI
  have hs := eqb_ws h hp hN.2 hw
  have hTs := txr_ws hT hp o.2.2.1.2 hw
  unfold B_X0_haulingByLoss_6
  rw [show s p 3 = g 0 from hs.f 0 (by decide)]
  refine zk_ite (fun hle => ?_) (fun hlt => ?_)
  · have gl := zle hle
    refine zk_some ⟨?_, hw⟩
    rw [show (g 0).toNatClampNeg = i by omega, ← hx]
  · have gl := znle hlt
    have ni := ztn (i := x3) (by omega)
    have hk : (i : Int) < (g 0).toInt := by omega
    refine zk_in (zin_mk (by omega) (by omega)) ?_
    rw [show x3.toNatClampNeg = i by omega, hs.2 i 1 hk (by decide)]
    have ex := zTe (zTadd (zTs x3) (zTl zt_1) (by omega) (by omega))
    have hx1 : x1 = (sBL g i).1 := congrArg Prod.fst hx
    have hx2 : x2 = (sBL g i).2 := congrArg Prod.snd hx
    have nx7 : ∀ (y1 y2 : Int32) (t : zg_S), wr WS σ t → (y1, y2) = sBL g (i + 1) → zk (B_X0_haulingByLoss_78 p rec y1 y2 x3 t) (fun r s => r = (sBL g (g 0).toNatClampNeg).1 ∧ wr WS σ s) := fun y1 y2 t ht he => by
      unfold B_X0_haulingByLoss_78
      exact ih y1 y2 (x3 + 1) t ⟨ht, i + 1, by rw [ex, hi]; rfl, by omega, he⟩ (by show (9 - (x3 + 1).toInt).toNat < (9 - x3.toInt).toNat; rw [ex]; omega)
    have b44 : ∀ (y : Int32) (t : zg_S), wr WS σ t → y = sLo g i → zk (B_X0_haulingByLoss_44 p rec x1 x2 x3 (p + 1 + 2 + i) y t) (fun r s => r = (sBL g (g 0).toNatClampNeg).1 ∧ wr WS σ s) := fun y t ht hy => by
      have hst := eqb_ws h hp hN.2 ht
      unfold B_X0_haulingByLoss_44
      rw [hx2, hy]
      have eB : sBL g (i + 1) = if sLo g i ≤ (sBL g i).2 then sBL g i else (sDir g i, sLo g i) := rfl
      refine zk_ite (fun hle => ?_) (fun hlt => ?_)
      · exact nx7 _ _ t ht (by rw [eB, if_pos hle, hx1])
      · rw [if_neg hlt] at eB
        refine zk_e (c_slant hst) ?_
        rw [show t p 6 = g 7 from hst.f 7 (by decide), hst.2 i 1 hk (by decide)]
        unfold B_X0_haulingByLoss_77
        refine zk_ite (fun hd => ?_) (fun hd => ?_)
        · exact nx7 _ _ t ht (by rw [eB]; unfold sDir; rw [if_pos hd])
        · exact nx7 _ _ t ht (by rw [eB]; unfold sDir; rw [if_neg hd])
    refine zk_e (c_shades hs _) ?_
    refine zk_ite (fun hd => ?_) (fun hd => ?_)
    · refine zk_call (c_lossOf hs hTs o hp i hk) (fun r t hp' => ?_)
      exact b44 r t (hw.tr hp'.2 (fun _ _ z => z)) (by rw [hp'.1]; unfold sLo; rw [if_pos hd])
    · exact b44 0 s hw (by unfold sLo; rw [if_neg hd])
theorem sPay_b (o : gOK g) (F : Int32) : ∀ k : Nat, (k : Int) ≤ (g 0).toInt → 0 ≤ (sPay g F k).toInt ∧ (sPay g F k).toInt ≤ 99 * k := by
  obtain ⟨hN, _⟩ := o.1
  intro k
  induction k with
  | zero => intro _; exact ⟨by show 0 ≤ (0 : Int32).toInt; decide, by show (0 : Int32).toInt ≤ _; decide⟩
  | succ k ih =>
    intro hk
    have h := ih (by omega)
    obtain ⟨_, _, _, h4⟩ := o.2.1 k (by omega)
    show 0 ≤ (if sShd g F (g (11 + 4 * k + 1)) = 0 then sPay g F k else sPay g F k + g (11 + 4 * k + 3)).toInt ∧ (if sShd g F (g (11 + 4 * k + 1)) = 0 then sPay g F k else sPay g F k + g (11 + 4 * k + 3)).toInt ≤ 99 * ((k + 1 : Nat) : Int)
    by_cases c : sShd g F (g (11 + 4 * k + 1)) = 0
    · rw [if_pos c]; omega
    · rw [if_neg c, zTe (zTadd (zTs (sPay g F k)) (zTs (g (11 + 4 * k + 3))) (by omega) (by omega))]; omega
theorem c_payUnder (h : EQB σ p g) (o : gOK g) (F : Int32) : zk (f_X0_payUnder p F σ) (fun r s => σ = s ∧ r = sPay g F (g 0).toNatClampNeg) := by
  obtain ⟨hN, _⟩ := o.1
  have e0 := zt_0
  have e1 := zt_1
  have nn := ztn hN.1
  unfold f_X0_payUnder L_X0_payUnder_4
  refine zl_II (fun (x2 x3 : Int32) (s : zg_S) => σ = s ∧ ∃ i : Nat, x3.toInt = i ∧ (i : Int) ≤ (g 0).toInt ∧ x2 = sPay g F i) (fun (_ x3 : Int32) (_ : zg_S) => (9 - x3.toInt).toNat) ?_ zfu _ _ _ ⟨rfl, 0, e0, by omega, rfl⟩ (by unfold zfu; omega)
  intro rec x2 x3 s hI ih
  obtain ⟨rfl, i, hi, hi2, hx⟩ := hI
  unfold B_X0_payUnder_4
  rw [show σ p 3 = g 0 from h.f 0 (by decide)]
  refine zk_ite (fun hle => ?_) (fun hlt => ?_)
  · have gl := zle hle
    exact zk_some ⟨rfl, by rw [show (g 0).toNatClampNeg = i by omega]; exact hx⟩
  · have gl := znle hlt
    have ni := ztn (i := x3) (by omega)
    have hk : (i : Int) < (g 0).toInt := by omega
    refine zk_in (zin_mk (by omega) (by omega)) ?_
    rw [show x3.toNatClampNeg = i by omega, h.2 i 1 hk (by decide)]
    have ex := zTe (zTadd (zTs x3) (zTl zt_1) (by omega) (by omega))
    have nx7 : ∀ y : Int32, y = sPay g F (i + 1) → zk (B_X0_payUnder_41 p F rec y x3 σ) (fun r s => σ = s ∧ r = sPay g F (g 0).toNatClampNeg) := fun y hy => by
      unfold B_X0_payUnder_41
      exact ih y (x3 + 1) σ ⟨rfl, i + 1, by rw [ex, hi]; rfl, by omega, hy⟩ (by show (9 - (x3 + 1).toInt).toNat < (9 - x3.toInt).toNat; rw [ex]; omega)
    have eP : sPay g F (i + 1) = if sShd g F (g (11 + 4 * i + 1)) = 0 then sPay g F i else sPay g F i + g (11 + 4 * i + 3) := rfl
    refine zk_e (c_wouldShade h _ _) ?_
    refine zk_ite (fun hd => ?_) (fun hd => ?_)
    · exact nx7 _ (by rw [eP, if_pos hd]; exact hx)
    · exact zk_let (fun y ey => nx7 _ (by rw [eP, if_neg hd, ey, hx, h.2 i 3 hk (by decide)]))
theorem c_byPay (h : EQB σ p g) (o : gOK g) : zk (f_X0_haulingByPay p σ) (fun r s => σ = s ∧ r = sByPay g) := by
  obtain ⟨hN, _⟩ := o.1
  have e0 := zt_0
  have e1 := zt_1
  have em := zt_m1
  have nn := ztn hN.1
  have hb : 0 ≤ (sPy g 0).toInt := (sPay_b o (sTo g 0) (g 0).toNatClampNeg (by omega)).1
  unfold f_X0_haulingByPay L_X0_haulingByPay_6
  refine zl_III (fun (x1 x2 x3 : Int32) (s : zg_S) => σ = s ∧ ((x3 = 0 ∧ x1 = 0 ∧ x2 = -1) ∨ (x3 = 1 ∧ x1 = 0 ∧ x2 = sPy g 0) ∨ (x3 = 2 ∧ x1 = (if sPy g 1 ≤ sPy g 0 then 0 else 1) ∧ x2 = (if sPy g 1 ≤ sPy g 0 then sPy g 0 else sPy g 1)) ∨ (x3 = 3 ∧ x1 = sByPay g))) (fun (_ _ x3 : Int32) (_ : zg_S) => (3 - x3.toInt).toNat) ?_ zfu _ _ _ _ ⟨rfl, Or.inl ⟨rfl, rfl, rfl⟩⟩ (by unfold zfu; omega)
  intro rec x1 x2 x3 s hI ih
  obtain ⟨rfl, hI⟩ := hI
  unfold B_X0_haulingByPay_6
  have pc : ∀ (mv : Int32) (k : Int32 → zg_S → Option (Int32 × zg_S)) (P : Int32 → zg_S → Prop), zk (k (sPy g mv) σ) P → zk (zbd (f_X0_hauledTo p mv σ) (fun r6 σ7 => zbd (f_X0_payUnder p r6 σ7) k)) P := fun mv k P hk => by
    refine zk_e (c_hauledTo h mv) ?_
    refine zk_call (c_payUnder h o (sTo g mv)) (fun r s hp => ?_)
    obtain ⟨rfl, hr⟩ := hp
    rw [hr]
    exact hk
  rcases hI with ⟨rfl, rfl, rfl⟩ | ⟨rfl, rfl, rfl⟩ | ⟨rfl, rfl, rfl⟩ | ⟨rfl, rfl⟩
  · refine zk_ite (fun z => absurd z (by decide)) (fun _ => ?_)
    refine pc 0 _ _ ?_
    unfold B_X0_haulingByPay_33
    refine zk_ite (fun z => absurd (zle z) (by omega)) (fun _ => ?_)
    exact ih _ _ _ σ ⟨rfl, Or.inr (Or.inl ⟨by decide, rfl, rfl⟩)⟩ (by decide)
  · refine zk_ite (fun z => absurd z (by decide)) (fun _ => ?_)
    refine pc 1 _ _ ?_
    unfold B_X0_haulingByPay_33
    refine zk_ite (fun z => ?_) (fun z => ?_)
    · exact ih _ _ _ σ ⟨rfl, Or.inr (Or.inr (Or.inl ⟨by decide, by rw [if_pos z], by rw [if_pos z]⟩))⟩ (by decide)
    · exact ih _ _ _ σ ⟨rfl, Or.inr (Or.inr (Or.inl ⟨by decide, by rw [if_neg z], by rw [if_neg z]⟩))⟩ (by decide)
  · refine zk_ite (fun z => absurd z (by decide)) (fun _ => ?_)
    refine pc 2 _ _ ?_
    unfold B_X0_haulingByPay_33
    refine zk_ite (fun z => ?_) (fun z => ?_)
    · exact ih _ _ _ σ ⟨rfl, Or.inr (Or.inr (Or.inr ⟨by decide, by unfold sByPay; rw [if_pos z]⟩))⟩ (by decide)
    · exact ih _ _ _ σ ⟨rfl, Or.inr (Or.inr (Or.inr ⟨by decide, by unfold sByPay; rw [if_neg z]⟩))⟩ (by decide)
  · refine zk_ite (fun _ => zk_some ⟨rfl, rfl⟩) (fun z => absurd (by decide) z)
theorem c_hauling (h : EQB σ p g) (hT : TXR σ p g) (o : gOK g) (hp : 53 ≤ p) : zk (f_X0_hauling p σ) (fun r s => r = sHl g ∧ wr WS σ s) := by
  unfold f_X0_hauling sHl
  rw [show σ p 9 = g 10 from h.f 10 (by decide)]
  by_cases c : g 10 = 1
  · rw [if_pos c, if_pos c]
    exact zk_call (c_byLoss h hT o hp) (fun r s hp' => zk_some hp')
  · rw [if_neg c, if_neg c]
    by_cases d : g 10 = 2
    · rw [if_pos d, if_pos d]
      refine zk_call (c_byPay h o) (fun r s hp' => ?_)
      obtain ⟨rfl, hr⟩ := hp'
      exact zk_some ⟨hr, wr.rf⟩
    · rw [if_neg d, if_neg d]
      exact zk_some ⟨rfl, wr.rf⟩
end
