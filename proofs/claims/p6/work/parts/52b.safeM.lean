set_option maxHeartbeats 400000 in
theorem s_X7_payIf (a1 : Int32) (σ : zg_S) (hσ : IMc σ)  : zk (f_X7_payIf a1 σ) (fun r s => IMc s ∧ hi σ s) := by
  unfold f_X7_payIf
  refine zk_let (fun σ3 q3 => ?_)
  have hS1 : IMc σ3 := by rw [q3]; exact IMc.up hσ (zTs ((σ 1 7) + a1)) trivial
  have hH2 : hi σ σ3 := by rw [q3]; exact hi.up1 hi.rf (by decide) (by decide)
  refine zk_call (s_X7_holds σ3 hS1 ) (fun r9 σ10 hp4 => ?_)
  obtain ⟨hS5, hH6⟩ := hp4
  refine zk_call (s_X7_payNow σ10 hS5 ) (fun r16 σ17 hp7 => ?_)
  subst hp7
  refine zk_let (fun σ25 q10 => ?_)
  have hS8 : IMc σ25 := by rw [q10]; exact IMc.up hS5 (zTs (σ 1 7)) trivial
  have hH9 : hi σ σ25 := by rw [q10]; exact hi.up1 (hH2.tr hH6) (by decide) (by decide)
  exact zk_some ⟨hS8, hH9⟩

set_option maxHeartbeats 400000 in
theorem s_X7_textAt (a1 : Int32) (σ : zg_S) (hσ : IMc σ) (hp0_ : 0 ≤ a1.toInt) (hp1_ : a1.toInt ≤ 14) : zk (f_X7_textAt a1 σ) (fun r s => σ = s ∧ r.toInt = 47 + 200 * a1.toInt) := by
  unfold f_X7_textAt
  exact zk_some ⟨rfl, (zTe (zTadd (zTl zt_47) (zTmul (zTl zt_200) (zTs a1) (by omega) (by omega)) (by omega) (by omega)))⟩

set_option maxHeartbeats 400000 in
theorem s_X7_counts (a1 : Int32) (σ : zg_S) (hσ : IMc σ)  : zk (f_X7_counts a1 σ) (fun r s => σ = s ∧ -1 ≤ r.toInt ∧ r.toInt < (σ 1 1).toInt) := by
  unfold f_X7_counts
  have e1 := zt_m1
  have e2 := zt_0
  have f3 : 0 ≤ (σ 1 1).toInt ∧ (σ 1 1).toInt ≤ 14 := IMf hσ 1 1
  unfold L_X7_counts_4
  refine zl_II (fun (x2 : Int32) (x3 : Int32) (s4_ : zg_S) => σ = s4_ ∧ -1 ≤ x2.toInt ∧ x2.toInt < (s4_ 1 1).toInt ∧ 0 ≤ x3.toInt ∧ x3.toInt ≤ 14) (fun (x2 : Int32) (x3 : Int32) (s4_ : zg_S) => (14 - x3.toInt).toNat) ?_ zfu (-1) 0 σ ⟨rfl, (by omega), (by omega), (by omega), (by omega)⟩ (by unfold zfu; omega)
  intro rec4_ x2 x3 s4_ hI4 ih4_
  obtain ⟨rfl, i5, i6, i7, i8⟩ := hI4
  unfold B_X7_counts_4
  refine zk_ite (fun h9 => ?_) (fun h9 => ?_)
  · have g10 := zle h9
    have f11 : 0 ≤ (σ 1 1).toInt ∧ (σ 1 1).toInt ≤ 14 := IMf hσ 1 1
    exact zk_some ⟨rfl, (by first | exact Or.inl rfl | exact Or.inr rfl | assumption | omega | exact Or.inr ⟨rfl, by omega, by omega⟩ | exact Or.inr ⟨by omega, by omega⟩), (by first | exact Or.inl rfl | exact Or.inr rfl | assumption | omega | exact Or.inr ⟨rfl, by omega, by omega⟩ | exact Or.inr ⟨by omega, by omega⟩)⟩
  · have g12 := znle h9
    have f13 : 0 ≤ (σ 1 1).toInt ∧ (σ 1 1).toInt ≤ 14 := IMf hσ 1 1
    refine zk_call (s_X7_textAt x3 σ hσ (by omega) (by omega)) (fun r8 σ9 hp14 => ?_)
    obtain ⟨rfl, x15⟩ := hp14
    have z16 : zin r8 3047 = true := zin_mkT (zTs r8) (by omega) (by omega)
    refine zk_in z16 ?_
    refine zk_ite (fun h17 => ?_) (fun h17 => ?_)
    · have g18 := zeq h17
      unfold B_X7_counts_33
      exact ih4_ x3 (x3 + 1) σ ⟨rfl, (by omega), (by omega), (by rw [zTe (zTadd (zTs x3) (zTl zt_1) (by omega) (by omega))]; omega), (by rw [zTe (zTadd (zTs x3) (zTl zt_1) (by omega) (by omega))]; omega)⟩ (by show (14 - (x3 + 1).toInt).toNat < (14 - x3.toInt).toNat; rw [zTe (zTadd (zTs x3) (zTl zt_1) (by omega) (by omega))]; omega)
    · have g19 := zne h17
      unfold B_X7_counts_33
      exact ih4_ x2 (x3 + 1) σ ⟨rfl, (by omega), (by omega), (by rw [zTe (zTadd (zTs x3) (zTl zt_1) (by omega) (by omega))]; omega), (by rw [zTe (zTadd (zTs x3) (zTl zt_1) (by omega) (by omega))]; omega)⟩ (by show (14 - (x3 + 1).toInt).toNat < (14 - x3.toInt).toNat; rw [zTe (zTadd (zTs x3) (zTl zt_1) (by omega) (by omega))]; omega)

set_option maxHeartbeats 400000 in
theorem s_X7_off (a0 : Int32) (a1 : Int32) (σ : zg_S) (hσ : IMc σ)  : zk (f_X7_off a0 a1 σ) (fun r s => σ = s) := by
  unfold f_X7_off
  refine zk_ite (fun h1 => ?_) (fun h1 => ?_)
  · have g2 := zle h1
    exact zk_some rfl
  · have g3 := znle h1
    exact zk_some rfl

set_option maxHeartbeats 400000 in
theorem s_X7_heat  (σ : zg_S) (hσ : IMc σ)  : zk (f_X7_heat  σ) (fun r s => σ = s) := by
  unfold f_X7_heat
  have e1 := zt_5
  refine zk_call (s_X7_off ((σ 1 2) - (σ 1 2) / 10 * 10) 5 σ hσ ) (fun r1 σ2 hp2 => ?_)
  subst hp2
  exact zk_some rfl

