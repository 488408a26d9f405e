/-! pour -/
theorem c_num {σ : zg_S} {n i : Nat} {len : Int32} {row : Nat → Int32} {a : Int32} (y : σ (53 + 2 * n) 1 = len) (z : ∀ i, i < 24 → σ (53 + 2 * n + 1) i = row i) (f5 : 0 ≤ len.toInt ∧ len.toInt ≤ 24) (ha : a.toInt = i) : f_X2_hasNumber (53 + 2 * n) a σ = some (if (i : Int) < len.toInt then (if row i = -1000000005 then 0 else 1) else 0, σ) := by
  have en : a.toNatClampNeg = i := zTn (zTl ha) rfl
  unfold f_X2_hasNumber
  by_cases c : (i : Int) < len.toInt
  · rw [c_hasPlace1 (by rw [y]; exact f5.1) (by rw [y]; omega), zbd_s, if_neg one_ne, if_pos (zin_mk (by omega) (by omega)), en, z i (by omega), if_pos c]
    by_cases d : row i = -1000000005
    · rw [if_pos d, if_pos d]
    · rw [if_neg d, if_neg d]
  · rw [c_hasPlace0 (by rw [y]; exact f5.1) (by rw [y]; omega), zbd_s, if_pos rfl, if_neg c]
theorem sPo_st {g row : Nat → Int32} {len : Int} {i : Nat} (hi : i ≤ 9) : STx g (sPo g row len i).1 := ⟨sPo_c i (by omega), fun j hj => sPo_c i (by omega)⟩
theorem sPo_y {g row : Nat → Int32} {len : Int} {i : Nat} (c : (i : Int) < len ∧ ¬ row i = -1000000005) : sPo g row len (i + 1) = (upd (sPo g row len i).1 (11 + 4 * i + 2) (sHeld (row i) 0 999), (sPo g row len i).2 + if sHeld (row i) 0 999 = g (11 + 4 * i + 2) then 0 else 1) := if_pos c
theorem sPo_n {g row : Nat → Int32} {len : Int} {i : Nat} (c : ¬ ((i : Int) < len ∧ ¬ row i = -1000000005)) : sPo g row len (i + 1) = sPo g row len i := if_neg c
theorem c_pour {a len : Int32} {n N : Nat} {g row : Nat → Int32} {σ : zg_S} (y : σ (53 + 2 * n) 1 = len) (z : ∀ i, i < 24 → σ (53 + 2 * n + 1) i = row i) (f5 : 0 ≤ len.toInt ∧ len.toInt ≤ 24) (hn : n < 4) (hE : EQB σ 153 g) (hN : (g 0).toInt = N) (h9 : N ≤ 9) : zk (L_X6_pour_32 a zfu (53 + 2 * n) 0 0 σ) (fun r s => r = (sPo g row len.toInt N).2 ∧ EQB s 153 (sPo g row len.toInt N).1) := by
  have e0 := zt_0
  have e1 := zt_1
  unfold L_X6_pour_32
  refine zl_NII (fun (q : Nat) (x3 x : Int32) (s : zg_S) => q = 53 + 2 * n ∧ ∃ i : Nat, x.toInt = i ∧ i ≤ N ∧ x3 = (sPo g row len.toInt i).2 ∧ EQB s 153 (sPo g row len.toInt i).1 ∧ ∀ p k, p < 153 → s p k = σ p k) (fun (_ : Nat) (_ x : Int32) (_ : zg_S) => (24 - x.toInt).toNat) ?_ zfu _ _ _ _ ⟨rfl, 0, e0, by omega, rfl, hE, fun _ _ _ => rfl⟩ (by unfold zfu; omega)
  intro rec q x3 x s hI ih
  obtain ⟨rfl, i, hi, hiN, rfl, hEs, hf⟩ := hI
  have ni := ztn (i := x) (by omega)
  have e3 : s 153 3 = g 0 := (hEs.f 0 (by decide)).trans (sPo_c i (by omega))
  unfold B_X6_pour_32
  rw [e3]
  refine zk_ite (fun hle => ?_) (fun hlt => ?_)
  · have := zle hle
    have : i = N := by omega
    subst this
    exact zk_some ⟨rfl, hEs⟩
  · have gl := znle hlt
    have ex := zTe (zTadd (zTs x) (zTl zt_1) (by omega) (by omega))
    have nx7 : ∀ (u : zg_S) (w : Int32), w = (sPo g row len.toInt (i + 1)).2 → EQB u 153 (sPo g row len.toInt (i + 1)).1 → (∀ p k, p < 153 → u p k = σ p k) → zk (B_X6_pour_110 a rec (53 + 2 * n) w x u) (fun r s => r = (sPo g row len.toInt N).2 ∧ EQB s 153 (sPo g row len.toInt N).1) := fun u w hw hEu hfu => by
      unfold B_X6_pour_110
      exact ih (53 + 2 * n) w (x + 1) u ⟨rfl, i + 1, by rw [ex, hi]; rfl, by omega, hw, hEu, hfu⟩ (by show (24 - (x + 1).toInt).toNat < (24 - x.toInt).toNat; rw [ex]; omega)
    refine zk_e (c_num (len := len) (row := row) ((hf _ _ (by omega)).trans y) (fun j hj => (hf _ _ (by omega)).trans (z j hj)) f5 hi) ?_
    by_cases c : (i : Int) < len.toInt ∧ ¬ row i = -1000000005
    · have sy := sPo_y (g := g) c
      rw [if_pos c.1, if_neg c.2]
      refine zk_ite (fun z => absurd z one_ne) (fun _ => zk_in (zin_mk (by omega) (by omega)) ?_)
      rw [show x.toNatClampNeg = i by omega, hf _ _ (by omega), z i (by omega)]
      refine zk_e (c_held _ _ _ _) (zk_in (zin_mk (by omega) (by omega)) ?_)
      have eg : s (154 + 2 + i) 2 = g (11 + 4 * i + 2) := (hEs.2 i 2 (by rw [sPo_c i (by omega)]; omega) (by decide)).trans (sPo_c i (by omega))
      rw [eg]
      have go : ∀ w : Int32, w = (if sHeld (row i) 0 999 = g (11 + 4 * i + 2) then 0 else 1) → zk (B_X6_pour_93 a rec (53 + 2 * n) x (sHeld (row i) 0 999) w (sPo g row len.toInt i).2 s) (fun r s => r = (sPo g row len.toInt N).2 ∧ EQB s 153 (sPo g row len.toInt N).1) := fun w hw => by
        unfold B_X6_pour_93
        refine zk_in (zin_mk (by omega) (by omega)) (zk_let (fun s2 q2 => ?_))
        rw [show x.toNatClampNeg = i by omega] at q2
        refine nx7 s2 _ (by rw [sy, hw]) ?_ (fun p k hp => by rw [q2]; exact (congrFun (zg_row_ne (by omega)) k).trans (hf p k hp))
        rw [sy, q2]
        exact hEs.upS i 2 (by decide)
      exact zk_ite (fun hv => go 0 (by rw [if_pos hv])) (fun hv => go 1 (by rw [if_neg hv]))
    · have sn := sPo_n (g := g) c
      have hz : (if (i : Int) < len.toInt then (if row i = -1000000005 then (0 : Int32) else 1) else 0) = 0 := by
        by_cases c1 : (i : Int) < len.toInt
        · rw [if_pos c1, if_pos (Classical.byContradiction (fun d => c ⟨c1, d⟩))]
        · rw [if_neg c1]
      rw [hz]
      exact zk_ite (fun _ => nx7 s _ (by rw [sn]) (by rw [sn]; exact hEs) hf) (fun z => absurd rfl z)
theorem r_pour {a len : Int32} {n N : Nat} {g row : Nat → Int32} {τ : zg_S} (y : τ 5 n = len) (z : ∀ i, i < 24 → τ 6 (24 * n + i) = row i) (f5 : 0 ≤ len.toInt ∧ len.toInt ≤ 24) (hn : n < 4) (ha : a.toInt = n) (hE : τ 1 = g) (hN : (g 0).toInt = N) (h9 : N ≤ 9) : zk (L_X7_pour_27 a zfu 0 0 τ) (fun r s => r = (sPo g row len.toInt N).2 ∧ s 1 = (sPo g row len.toInt N).1) := by
  have e0 := zt_0
  have e1 := zt_1
  have e24 := zt_24
  have e999 := zt_999
  have zi : zin a 4 = true := zin_mk (by omega) (by omega)
  have en : a.toNatClampNeg = n := zTn (zTl ha) rfl
  unfold L_X7_pour_27
  refine zl_II (fun (x3 x : Int32) (s : zg_S) => ∃ i : Nat, x.toInt = i ∧ i ≤ N ∧ x3 = (sPo g row len.toInt i).2 ∧ s 1 = (sPo g row len.toInt i).1 ∧ ∀ p, p ≠ 1 → s p = τ p) (fun (_ x : Int32) (_ : zg_S) => (24 - x.toInt).toNat) ?_ zfu _ _ _ ⟨0, e0, by omega, rfl, hE, fun _ _ => rfl⟩ (by unfold zfu; omega)
  intro rec x3 x s hI ih
  obtain ⟨i, hi, hiN, rfl, hEs, hf⟩ := hI
  have ni := ztn (i := x) (by omega)
  unfold B_X7_pour_27
  refine zk_in zi ?_
  rw [en, hf 5 (by decide), hf 6 (by decide), y, hEs]
  refine zk_ite (fun hle => ?_) (fun hlt => ?_)
  · have := zle hle
    have := sPo_e (g := g) (row := row) (len := len.toInt) hiN (by omega)
    rw [this]
    exact zk_some ⟨rfl, hEs⟩
  have gl := znle hlt
  rw [show (sPo g row len.toInt i).1 0 = g 0 from sPo_c i (by omega)]
  refine zk_ite (fun hle => ?_) (fun hlt => ?_)
  · have := zle hle
    have : i = N := by omega
    subst this
    exact zk_some ⟨rfl, hEs⟩
  have gl2 := znle hlt
  have ex := zTe (zTadd (zTs x) (zTl zt_1) (by omega) (by omega))
  have pi := zTadd (zTmul (zTl zt_24) (zTs a) (by omega) (by omega)) (zTs x) (by omega) (by omega)
  have ii := zTn pi (show (24 * a.toInt + x.toInt : Int) = ((24 * n + i : Nat) : Int) by omega)
  refine zk_in (zin_mkT pi (by omega) (by omega)) (zk_let (fun v ev => ?_))
  rw [ii, z i (by omega)] at ev
  subst ev
  have ec := cellN (a := x) (n := i) (j := 2) hi (by omega) 2 zt_2 (by decide)
  have eg : (sPo g row len.toInt i).1 (11 + 4 * i + 2) = g (11 + 4 * i + 2) := sPo_c i (by omega)
  have nx7 : ∀ (u : zg_S) (w w' : Int32), w' + w = (sPo g row len.toInt (i + 1)).2 → u 1 = (sPo g row len.toInt (i + 1)).1 → (∀ p, p ≠ 1 → u p = τ p) → zk (B_X7_pour_118 a rec x w w' u) (fun r s => r = (sPo g row len.toInt N).2 ∧ s 1 = (sPo g row len.toInt N).1) := fun u w w' hw hEu hfu => by
    unfold B_X7_pour_118
    exact ih (w' + w) (x + 1) u ⟨i + 1, by rw [ex, hi]; rfl, by omega, hw, hEu, hfu⟩ (by show (24 - (x + 1).toInt).toNat < (24 - x.toInt).toNat; rw [ex]; omega)
  refine zk_ite (fun d => ?_) (fun d => ?_)
  · have sn := sPo_n (g := g) (row := row) (len := len.toInt) (i := i) (fun c => c.2 d)
    refine zk_in (zin_mk (by omega) (by omega)) ?_
    rw [show ((11 + (4 * x)) + 2).toNatClampNeg = 11 + 4 * i + 2 from zTn (zTl ec) rfl, eg]
    unfold B_X7_pour_91
    refine zk_e (r_becomes ec (by omega)) ?_
    rw [hEs, eg]
    refine zk_ite (fun _ => ?_) (fun z => absurd rfl z)
    refine nx7 _ 0 _ (by rw [sn]; exact Int32.add_zero _) ?_ (fun p hp => (zg_row_ne hp).trans (hf p hp))
    rw [sn, ← hEs]
    funext k
    by_cases e : k = 11 + 4 * i + 2
    · subst e
      rw [hEs, eg]
      exact zgot
    · exact zkeepn e
  · have sy := sPo_y (g := g) (row := row) (len := len.toInt) (i := i) ⟨by omega, d⟩
    refine zk_e (r_within _ _ _ (by omega)) ?_
    unfold B_X7_pour_91
    refine zk_e (r_becomes ec (by omega)) ?_
    rw [hEs, eg]
    have un : ∀ v : Int32, zg_up s 1 (11 + 4 * i + 2) v 1 = upd (sPo g row len.toInt i).1 (11 + 4 * i + 2) v := fun v => by
      funext k
      by_cases e : k = 11 + 4 * i + 2
      · subst e
        rw [pk_us]
        exact zgot
      · rw [pk_un e, ← hEs]
        exact zkeepn e
    refine zk_ite (fun hv => ?_) (fun hv => ?_)
    · exact nx7 _ 0 _ (by rw [sy, if_pos hv]) (by rw [sy]; exact un _) (fun p hp => (zg_row_ne hp).trans (hf p hp))
    · exact nx7 _ 1 _ (by rw [sy, if_neg hv]) (by rw [sy]; exact un _) (fun p hp => (zg_row_ne hp).trans (hf p hp))
theorem gC_e {g h : Nat → Int32} (c : gC g) (e : ∀ i, i < 6 → h i = g i) : gC h := by
  unfold gC at c ⊢
  rw [e 2 (by decide), e 3 (by decide), e 4 (by decide), e 5 (by decide)]
  exact c
theorem v_pour {σ τ : zg_S} (h : RR σ τ) (hM : IMc τ) (a : Int32) : z2 (f_X6_pour a σ) (f_X7_pour a τ) SM := by
  have e0 := zt_0
  obtain ⟨hE, hT, o, hC, h99⟩ := id h.1
  have n0 := o.1.1
  suffices z2 (f_X6_pour a σ) (f_X7_pour a τ) (fun r s r' t => r = r' ∧ EQB s 153 (t 1) ∧ STx (τ 1) (t 1) ∧ gOK (t 1) ∧ gC (t 1) ∧ t 1 2 = τ 1 2) by
    refine z2_mono (z2_w this (w_X6_pour a σ) (w_X7_pour a τ)) (fun r s r' t hq => ?_)
    obtain ⟨⟨q1, q2, q3, q4, q5, q6⟩, hw, hw'⟩ := hq
    refine ⟨q1, h.now (fun p k hp => hw p k (fun z => ?_)) (fun p k hp => hw' p k (fun z => ?_)) ?_ ⟨q2, ?_, q4, q5, by rw [q6]; exact h99⟩⟩
    · unfold W_X6_pour at z
      unfold sideC at hp
      omega
    · unfold W_X7_pour at z
      unfold sideM at hp
      omega
    · rw [q3.1]
      exact Int.le_refl _
    · exact (hT.wr o.2.2.1.2 (fun k => hw _ k (fun z => by unfold W_X6_pour at z; omega)) (fun q k _ hq _ => hw _ k (fun z => by unfold W_X6_pour at z; omega))).st q3
  have rf : ∀ r : Int32, r = r ∧ EQB σ 153 (τ 1) ∧ STx (τ 1) (τ 1) ∧ gOK (τ 1) ∧ gC (τ 1) ∧ τ 1 2 = τ 1 2 := fun r => ⟨rfl, hE, STx.rf, o, hC, rfl⟩
  unfold f_X6_pour f_X7_pour
  refine z2_sheet (z2_pL rfl (z2_pR rfl (z2_some (rf _)))) (fun n hn h4 en zi => z2_nL one_ne (z2_nR one_ne (z2_pL zi (z2_pR zi ?_))))
  rw [en]
  have f5 : 0 ≤ (τ 5 n).toInt ∧ (τ 5 n).toInt ≤ 24 := hM 5 n
  rcases c_missing h h4 with ⟨m1, q1⟩ | ⟨m1, m2, q1⟩
  · refine z2_eL q1 (z2_nL one_ne (z2_nR (fun z => ?_) (z2_some (rf _))))
    have := zle z
    have := zlt m1
    omega
  refine z2_eL q1 (z2_pL rfl (z2_pR m2 ?_))
  obtain ⟨_, y, z, _⟩ := h.2.2.2.2.1 n h4
  have hN : ((τ 1) 0).toInt = (((τ 1) 0).toInt.toNat : Nat) := by omega
  refine z2_kk (c_pour (row := fun i => τ 6 (24 * n + i)) y z f5 h4 hE hN (by omega)) (r_pour (row := fun i => τ 6 (24 * n + i)) rfl (fun _ _ => rfl) f5 h4 hn rfl hN (by omega)) (fun r s r' t q q' => ?_)
  rw [q'.2]
  exact ⟨q.1.trans q'.1.symm, q.2, sPo_st (by omega), sPo_ok o _ (by omega), gC_e hC (fun i hi => sPo_c _ (by omega)), sPo_c _ (by omega)⟩
