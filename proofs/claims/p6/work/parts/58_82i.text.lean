theorem v_text {σ τ : zg_S} (h : RR σ τ) (hM : IM τ) : z2 (f_X6_text σ) (f_X7_text τ) SM := by
  obtain ⟨hc, w1, w2⟩ := id hM
  have e0 := zt_0
  have e1 := zt_1
  have e2 := zt_2
  have e14 := zt_14
  have f11 : 0 ≤ (τ 1 1).toInt ∧ (τ 1 1).toInt ≤ 14 := hc 1 1
  have n1 := ztn f11.1
  suffices hh : z2 (f_X6_text σ) (f_X7_text τ) (fun r s r' t => r = r' ∧ (WF (t 1) → RR s t)) by
    exact z2_mono (z2_kR hh (m_text τ hM)) (fun r s r' t q => ⟨q.1.1, q.1.2 q.2.2.1⟩)
  obtain ⟨hB, h2, h3, h4, h5, h6⟩ := h
  unfold f_X6_text f_X7_text
  refine z2_cc (z2_w (z2_kR (z2_parse hc h3.1 h3.2) (m_parse τ hc)) (w_X1_readText (σ 0 10) σ) (w_X7_parse τ)) (fun r s r' t hq => ?_)
  obtain ⟨⟨⟨t14, hq⟩, it, p1, p2, p3, _⟩, ws, wt⟩ := hq
  refine z2_lL (fun s' qs => ?_)
  have cs : ∀ p k, ¬ (p = 0 ∧ k = 10) → p ≠ 7 → p ≠ 8 → p ≠ 9 → s' p k = σ p k := fun p k hn h7 h8 h9 => by
    have ee : s' p k = s p k := by
      rw [qs]
      by_cases c : p = 0
      · subst c
        exact zkeepn (fun z => hn ⟨rfl, z⟩)
      · exact congrFun (zg_row_ne c) k
    exact ee.trans (ws p k (by unfold W_X1_readText; omega))
  have rs : ∀ p, p ≠ 0 → s' p = s p := fun p hp => by rw [qs]; exact zg_row_ne hp
  have s10 : s' 0 10 = 0 := by rw [qs]; exact zgot
  have hb : 47 + 200 * (τ 1 1).toNatClampNeg ≤ bb τ := by
    unfold bb
    by_cases c : (τ 1 1).toInt < 14
    · rw [if_pos c]; omega
    · rw [if_neg c]; omega
  have ag : AGr (τ 1 1).toNatClampNeg (τ 1) (t 1) := fun k _ hk => p3 k (by omega)
  have t11 : t 1 1 = τ 1 1 := p3 1 (by omega)
  have same : WF (t 1) → RR s' t := fun w => by
    refine ⟨bzA hB ag t11 w (fun q k _ _ => cs q k (by omega) (by omega) (by omega) (by omega)) (fun q k _ _ _ => cs q k (by omega) (by omega) (by omega) (by omega)), h2.k (cs 0 12 (by omega) (by omega) (by omega) (by omega)) (p2 3 (by omega)) (p1 2 (by decide) (by decide)) (by rw [t11]; exact Int.le_refl _) (fun q k _ _ => cs q k (by omega) (by omega) (by omega) (by omega)) (fun q k _ _ _ => cs q k (by omega) (by omega) (by omega) (by omega)), ⟨s10.trans t14.symm, fun i hi => ?_⟩, h4.k (cs 0 11 (by omega) (by omega) (by omega) (by omega)) (p2 29 (by omega)) (fun k => cs 5 k (by omega) (by omega) (by omega) (by omega)) (fun k => congrFun (p1 17 (by decide) (by decide)) k), h5.k (fun q k _ _ => cs q k (by omega) (by omega) (by omega) (by omega)) (fun k => congrFun (p1 4 (by decide) (by decide)) k) (fun k => congrFun (p1 5 (by decide) (by decide)) k) (fun k => congrFun (p1 6 (by decide) (by decide)) k), h6.k (fun q k _ _ => cs q k (by omega) (by omega) (by omega) (by omega)) (fun p k _ _ => congrFun (p1 p (by omega) (by omega)) k)⟩
    rw [t14] at hi
    omega
  rcases hq with ⟨rfl, hr, hn⟩ | ⟨rfl, hk, hS, hL, l0, l1, hmb⟩
  · exact z2_nL hn (z2_nR (by decide) (z2_some ⟨by rw [hr], same⟩))
  have hB4 : s' 153 4 = τ 1 1 := (cs 153 4 (by omega) (by omega) (by omega) (by omega)).trans (hB.1.f 1 (by decide))
  refine z2_pL rfl (z2_pR (by rcases hk with rfl | rfl | rfl <;> decide) ?_)
  rw [hB4, t11]
  by_cases c14 : τ 1 1 = 14
  · have g := zeq c14
    exact z2_pR c14 (z2_nL (fun z => by have := zlt z; omega) (z2_some ⟨rfl, same⟩))
  have g := zne c14
  have hlt : (τ 1 1).toInt < 14 := by omega
  refine z2_nR c14 (z2_pL (Int32.lt_iff_toInt_lt.mpr (by omega)) ?_)
  have hbb : bb τ = 51 + 200 * (τ 1 1).toNatClampNeg := by unfold bb; rw [if_pos hlt]
  have s80 : s' 8 0 = r' := (congrFun (rs 8 (by decide)) 0).trans hS.1
  refine z2_cL (c_enact s' (by rw [hB4]; exact f11.1) (by rw [hB4]; exact hlt) (by rw [s80]; exact hk)) (fun rc s2 hp => ?_)
  rw [hB4, s80, show s' 8 1 = t 0 24 from (congrFun (rs 8 (by decide)) 1).trans hL, show s' 8 2 = t 0 22 from (congrFun (rs 8 (by decide)) 2).trans hS.2.1, rs 9 (by decide)] at hp
  obtain ⟨rfl, a1, a2, a3, a4, a5, a6, a7, a8, a9⟩ := hp
  refine z2_cR (s_X7_textAt (τ 1 1) t it f11.1 (by omega)) (fun r14 t' hp => ?_)
  obtain ⟨rfl, hr⟩ := hp
  have z0 := zTadd (zTl hr) (zTl zt_0) (by omega) (by omega)
  have z1 := zTadd (zTl hr) (zTl zt_1) (by omega) (by omega)
  have zz := zTadd (zTl hr) (zTl zt_2) (by omega) (by omega)
  have i0 : (r14 + 0).toNatClampNeg = 47 + 200 * (τ 1 1).toNatClampNeg := zTn z0 (by omega)
  have i1 : (r14 + 1).toNatClampNeg = 47 + 200 * (τ 1 1).toNatClampNeg + 1 := zTn z1 (by omega)
  have i2 : (r14 + 2).toNatClampNeg = 47 + 200 * (τ 1 1).toNatClampNeg + 2 := zTn zz (by omega)
  refine z2_pR (zin_mkT z0 (by omega) (by omega)) ?_
  rw [i0]
  refine z2_lR (fun t1 q1 => z2_pR (zin_mkT z1 (by omega) (by omega)) ?_)
  rw [i1]
  refine z2_lR (fun t2 q2 => z2_pR (zin_mkT zz (by omega) (by omega)) ?_)
  rw [i2]
  refine z2_lR (fun t3 q3 => ?_)
  have rr : ∀ p, p ≠ 1 → t3 p = t p := fun p hp => by
    rw [q3]; refine (zg_row_ne hp).trans ?_
    rw [q2]; refine (zg_row_ne hp).trans ?_
    rw [q1]; exact zg_row_ne hp
  have t311 : t3 1 1 = τ 1 1 := by
    rw [q3]; refine (zkeepn (by omega)).trans ?_
    rw [q2]; refine (zkeepn (by omega)).trans ?_
    rw [q1]; exact (zkeepn (by omega)).trans t11
  rw [t311]
  have ea := zTe (zTadd (zTs (τ 1 1)) (zTl zt_1) (by omega) (by omega))
  refine z2_lR (fun t4 q4 => ?_)
  have r4 : ∀ p, p ≠ 1 → t4 p = t p := fun p hp => by
    rw [q4]; exact (zg_row_ne hp).trans (rr p hp)
  have k4 : ∀ j, j ≠ 1 → (j < 47 + 200 * (τ 1 1).toNatClampNeg ∨ 47 + 200 * (τ 1 1).toNatClampNeg + 2 < j) → t4 1 j = t 1 j := fun j hj hj2 => by
    rw [q4]; refine (zkeepn hj).trans ?_
    rw [q3]; refine (zkeepn (by omega)).trans ?_
    rw [q2]; refine (zkeepn (by omega)).trans ?_
    rw [q1]; exact zkeepn (by omega)
  have k40 : t4 1 (47 + 200 * (τ 1 1).toNatClampNeg) = r' := by
    rw [q4]; refine (zkeepn (by omega)).trans ?_
    rw [q3]; refine (zkeepn (by omega)).trans ?_
    rw [q2]; refine (zkeepn (by omega)).trans ?_
    rw [q1]; exact zgot
  have k41 : t4 1 (47 + 200 * (τ 1 1).toNatClampNeg + 1) = t 0 24 := by
    rw [q4]; refine (zkeepn (by omega)).trans ?_
    rw [q3]; refine (zkeepn (by omega)).trans ?_
    rw [q2]; refine zgot.trans ?_
    rw [q1]; exact congrFun (zup_ne rfl) 24
  have k42 : t4 1 (47 + 200 * (τ 1 1).toNatClampNeg + 2) = t 0 22 := by
    rw [q4]; refine (zkeepn (by omega)).trans ?_
    rw [q3]; refine zgot.trans ?_
    rw [q2]; refine (congrFun (zup_ne rfl) 22).trans ?_
    rw [q1]; exact congrFun (zup_ne rfl) 22
  have t411 : t4 1 1 = τ 1 1 + 1 := by rw [q4]; exact zgot
  have r40 : t4 0 = t 0 := r4 0 (by decide)
  have cs2 : ∀ p k, ¬ (p = 0 ∧ k = 10) → p ≠ 7 → p ≠ 8 → p ≠ 9 → p ≠ 153 → p ≠ 155 → p ≠ 11 + 3 * (τ 1 1).toNatClampNeg → p ≠ 11 + 3 * (τ 1 1).toNatClampNeg + 1 → s2 p k = σ p k := fun p k x1 x2 x3 x4 y1 y2 y3 y4 => (congrFun (a9 p y1 y2 y3 y4) k).trans (cs p k x1 x2 x3 x4)
  refine z2_some ⟨by rw [t411]; exact (Int32.add_sub_cancel _ _).symm, fun w => ?_⟩
  refine ⟨bzB (key := r') hB hlt (fun k hk1 hk2 => (k4 k hk1 (by omega)).trans (ag k hk1 hk2)) t411 w hk k40 ?_ (by rw [k42]; exact l1) a1 (fun k hk => (a2 k hk).trans (cs 153 k (by omega) (by omega) (by omega) (by omega))) a3 (fun k hk => (a4 k hk).trans (cs 155 k (by omega) (by omega) (by omega) (by omega))) (fun q k _ _ => cs2 q k (by omega) (by omega) (by omega) (by omega) (by omega) (by omega) (by omega) (by omega)) (fun q k _ _ _ y1 y2 => cs2 q k (by omega) (by omega) (by omega) (by omega) (by omega) (by omega) y1 y2), ?_, ?_, ?_, ?_, ?_⟩
  · refine ⟨a5.trans k40.symm, a6.trans k41.symm, a7.trans k42.symm, by rw [k40]; exact hk, fun i hi => ?_⟩
    rw [k42] at hi
    have hx := hS.2.2 i hi
    rw [hmb, hbb] at hx
    rw [k40, a8 i (by omega), k4 _ (by omega) (by omega), k4 _ (by omega) (by omega), show 47 + 200 * (τ 1 1).toNatClampNeg + 4 + 2 * i = 51 + 200 * (τ 1 1).toNatClampNeg + 2 * i by omega]
    exact hx
  · exact R2.t (N := (τ 1 1).toNatClampNeg) h2 (by omega) (cs2 0 12 (by omega) (by omega) (by omega) (by omega) (by omega) (by omega) (by omega) (by omega)) (by rw [r40]; exact p2 3 (by omega)) ((r4 2 (by decide)).trans (p1 2 (by decide) (by decide))) (by rw [t411, ea]; omega) (fun q k _ _ => cs2 q k (by omega) (by omega) (by omega) (by omega) (by omega) (by omega) (by omega) (by omega)) (fun q k _ _ _ y1 y2 => cs2 q k (by omega) (by omega) (by omega) (by omega) (by omega) (by omega) y1 y2)
  · refine ⟨((congrFun (a9 0 (by omega) (by omega) (by omega) (by omega)) 10).trans s10).trans (by rw [r40]; exact t14.symm), fun i hi => ?_⟩
    rw [r40, t14] at hi
    omega
  · exact h4.k (cs2 0 11 (by omega) (by omega) (by omega) (by omega) (by omega) (by omega) (by omega) (by omega)) (by rw [r40]; exact p2 29 (by omega)) (fun k => cs2 5 k (by omega) (by omega) (by omega) (by omega) (by omega) (by omega) (by omega) (by omega)) (fun k => congrFun ((r4 17 (by decide)).trans (p1 17 (by decide) (by decide))) k)
  · exact h5.k (fun q k _ _ => cs2 q k (by omega) (by omega) (by omega) (by omega) (by omega) (by omega) (by omega) (by omega)) (fun k => congrFun ((r4 4 (by decide)).trans (p1 4 (by decide) (by decide))) k) (fun k => congrFun ((r4 5 (by decide)).trans (p1 5 (by decide) (by decide))) k) (fun k => congrFun ((r4 6 (by decide)).trans (p1 6 (by decide) (by decide))) k)
  · exact h6.k (fun q k _ _ => cs2 q k (by omega) (by omega) (by omega) (by omega) (by omega) (by omega) (by omega) (by omega)) (fun p k _ _ => congrFun ((r4 p (by omega)).trans (p1 p (by omega) (by omega))) k)
