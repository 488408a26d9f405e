set_option maxHeartbeats 400000 in
theorem s_X7_isName (a0 : Int32) (a1 : Int32) (σ : zg_S) (hσ : IMc σ)  : zk (f_X7_isName a0 a1 σ) (fun r s => σ = s ∧ (r = 0 ∨ r = 1)) := by
  unfold f_X7_isName
  refine zk_ite (fun h1 => ?_) (fun h1 => ?_)
  · have g2 := zeq h1
    have e3 := zt_0
    refine zk_ite (fun h4 => ?_) (fun h4 => ?_)
    · have g5 := zeq h4
      have e6 := zt_104
      have e7 := zt_1
      exact zk_some ⟨rfl, (by first | exact Or.inl rfl | exact Or.inr rfl | assumption | omega | exact Or.inr ⟨rfl, by omega, by omega⟩ | exact Or.inr ⟨by omega, by omega⟩)⟩
    · have g8 := zne h4
      have e9 := zt_104
      refine zk_ite (fun h10 => ?_) (fun h10 => ?_)
      · have g11 := zeq h10
        have e12 := zt_103
        have e13 := zt_1
        exact zk_some ⟨rfl, (by first | exact Or.inl rfl | exact Or.inr rfl | assumption | omega | exact Or.inr ⟨rfl, by omega, by omega⟩ | exact Or.inr ⟨by omega, by omega⟩)⟩
      · have g14 := zne h10
        have e15 := zt_103
        refine zk_ite (fun h16 => ?_) (fun h16 => ?_)
        · have g17 := zeq h16
          have e18 := zt_112
          have e19 := zt_1
          exact zk_some ⟨rfl, (by first | exact Or.inl rfl | exact Or.inr rfl | assumption | omega | exact Or.inr ⟨rfl, by omega, by omega⟩ | exact Or.inr ⟨by omega, by omega⟩)⟩
        · have g20 := zne h16
          have e21 := zt_112
          exact zk_some ⟨rfl, (by first | exact Or.inl rfl | exact Or.inr rfl | assumption | omega | exact Or.inr ⟨rfl, by omega, by omega⟩ | exact Or.inr ⟨by omega, by omega⟩)⟩
  · have g22 := zne h1
    have e23 := zt_0
    refine zk_ite (fun h24 => ?_) (fun h24 => ?_)
    · have g25 := zeq h24
      have e26 := zt_1
      refine zk_ite (fun h27 => ?_) (fun h27 => ?_)
      · have g28 := zeq h27
        have e29 := zt_99
        exact zk_some ⟨rfl, (by first | exact Or.inl rfl | exact Or.inr rfl | assumption | omega | exact Or.inr ⟨rfl, by omega, by omega⟩ | exact Or.inr ⟨by omega, by omega⟩)⟩
      · have g30 := zne h27
        have e31 := zt_99
        refine zk_ite (fun h32 => ?_) (fun h32 => ?_)
        · have g33 := zeq h32
          have e34 := zt_116
          exact zk_some ⟨rfl, (by first | exact Or.inl rfl | exact Or.inr rfl | assumption | omega | exact Or.inr ⟨rfl, by omega, by omega⟩ | exact Or.inr ⟨by omega, by omega⟩)⟩
        · have g35 := zne h32
          have e36 := zt_116
          exact zk_some ⟨rfl, (by first | exact Or.inl rfl | exact Or.inr rfl | assumption | omega | exact Or.inr ⟨rfl, by omega, by omega⟩ | exact Or.inr ⟨by omega, by omega⟩)⟩
    · have g37 := zne h24
      have e38 := zt_1
      refine zk_ite (fun h39 => ?_) (fun h39 => ?_)
      · have g40 := zeq h39
        have e41 := zt_103
        exact zk_some ⟨rfl, (by first | exact Or.inl rfl | exact Or.inr rfl | assumption | omega | exact Or.inr ⟨rfl, by omega, by omega⟩ | exact Or.inr ⟨by omega, by omega⟩)⟩
      · have g42 := zne h39
        have e43 := zt_103
        refine zk_ite (fun h44 => ?_) (fun h44 => ?_)
        · have g45 := zeq h44
          have e46 := zt_115
          exact zk_some ⟨rfl, (by first | exact Or.inl rfl | exact Or.inr rfl | assumption | omega | exact Or.inr ⟨rfl, by omega, by omega⟩ | exact Or.inr ⟨by omega, by omega⟩)⟩
        · have g47 := zne h44
          have e48 := zt_115
          exact zk_some ⟨rfl, (by first | exact Or.inl rfl | exact Or.inr rfl | assumption | omega | exact Or.inr ⟨rfl, by omega, by omega⟩ | exact Or.inr ⟨by omega, by omega⟩)⟩

set_option maxHeartbeats 400000 in
theorem s_X7_isSign (a1 : Int32) (σ : zg_S) (hσ : IMc σ)  : zk (f_X7_isSign a1 σ) (fun r s => σ = s ∧ (r = 0 ∨ r = 1)) := by
  unfold f_X7_isSign
  refine zk_ite (fun h1 => ?_) (fun h1 => ?_)
  · have g2 := zeq h1
    have e3 := zt_3
    refine zk_ite (fun h4 => ?_) (fun h4 => ?_)
    · have g5 := zeq h4
      have e6 := zt_1
      exact zk_some ⟨rfl, (by first | exact Or.inl rfl | exact Or.inr rfl | assumption | omega | exact Or.inr ⟨rfl, by omega, by omega⟩ | exact Or.inr ⟨by omega, by omega⟩)⟩
    · have g7 := zne h4
      have e8 := zt_0
      exact zk_some ⟨rfl, (by first | exact Or.inl rfl | exact Or.inr rfl | assumption | omega | exact Or.inr ⟨rfl, by omega, by omega⟩ | exact Or.inr ⟨by omega, by omega⟩)⟩
  · have g9 := zne h1
    have e10 := zt_3
    have e11 := zt_0
    exact zk_some ⟨rfl, (by first | exact Or.inl rfl | exact Or.inr rfl | assumption | omega | exact Or.inr ⟨rfl, by omega, by omega⟩ | exact Or.inr ⟨by omega, by omega⟩)⟩

set_option maxHeartbeats 400000 in
theorem s_X7_firstShaded  (σ : zg_S) (hσ : IMc σ)  : zk (f_X7_firstShaded  σ) (fun r s => σ = s) := by
  unfold f_X7_firstShaded
  refine zk_call (s_X7_shadeFrom σ hσ ) (fun r16 σ17 hp1 => ?_)
  subst hp1
  refine zk_ite (fun h2 => ?_) (fun h2 => ?_)
  · have g3 := zle h2
    have e4 := zt_0
    refine zk_call (s_X7_shadeFrom σ hσ ) (fun r25 σ26 hp5 => ?_)
    subst hp5
    unfold B_X7_firstShaded_15
    refine zk_ite (fun h6 => ?_) (fun h6 => ?_)
    · have g7 := zle h6
      have e8 := zt_12
      exact zk_some rfl
    · have g9 := znle h6
      have e10 := zt_12
      refine zk_call (s_X7_shadeFrom σ hσ ) (fun r6 σ7 hp11 => ?_)
      subst hp11
      refine zk_ite (fun h12 => ?_) (fun h12 => ?_)
      · have g13 := zle h12
        exact zk_some rfl
      · have g14 := znle h12
        exact zk_some rfl
  · have g15 := znle h2
    have e16 := zt_0
    unfold B_X7_firstShaded_15
    refine zk_ite (fun h17 => ?_) (fun h17 => ?_)
    · have g18 := zle h17
      have e19 := zt_12
      exact zk_some rfl
    · have g20 := znle h17
      have e21 := zt_12
      refine zk_call (s_X7_shadeFrom σ hσ ) (fun r6 σ7 hp22 => ?_)
      subst hp22
      refine zk_ite (fun h23 => ?_) (fun h23 => ?_)
      · have g24 := zle h23
        exact zk_some rfl
      · have g25 := znle h23
        exact zk_some rfl

set_option maxHeartbeats 400000 in
theorem s_X7_orNone (a0 : Int32) (σ : zg_S) (hσ : IMc σ)  : zk (f_X7_orNone a0 σ) (fun r s => σ = s) := by
  unfold f_X7_orNone
  refine zk_ite (fun h1 => ?_) (fun h1 => ?_)
  · have g2 := zle h1
    have e3 := zt_0
    exact zk_some rfl
  · have g4 := znle h1
    have e5 := zt_0
    exact zk_some rfl

set_option maxHeartbeats 400000 in
theorem s_X7_shadedSet  (σ : zg_S) (hσ : IMc σ)  : zk (f_X7_shadedSet  σ) (fun r s => σ = s) := by
  unfold f_X7_shadedSet
  have e1 := zt_0
  unfold L_X7_shadedSet_4
  refine zl_II (fun (x1 : Int32) (x2 : Int32) (s4_ : zg_S) => σ = s4_ ∧ 0 ≤ x2.toInt ∧ x2.toInt ≤ 9) (fun (x1 : Int32) (x2 : Int32) (s4_ : zg_S) => (9 - x2.toInt).toNat) ?_ zfu 0 0 σ ⟨rfl, (by omega), (by omega)⟩ (by unfold zfu; omega)
  intro rec4_ x1 x2 s4_ hI2 ih4_
  obtain ⟨rfl, i3, i4⟩ := hI2
  unfold B_X7_shadedSet_4
  refine zk_ite (fun h5 => ?_) (fun h5 => ?_)
  · have g6 := zle h5
    have f7 : 0 ≤ (σ 1 0).toInt ∧ (σ 1 0).toInt ≤ 9 := IMf hσ 1 0
    exact zk_some rfl
  · have g8 := znle h5
    have f9 : 0 ≤ (σ 1 0).toInt ∧ (σ 1 0).toInt ≤ 9 := IMf hσ 1 0
    refine zk_call (s_X7_isShaded x2 σ hσ (by omega) (by omega)) (fun r8 σ9 hp10 => ?_)
    obtain ⟨rfl, x11⟩ := hp10
    refine zk_ite (fun h12 => ?_) (fun h12 => ?_)
    · have g13 := zeq h12
      have e14 := zt_0
      unfold B_X7_shadedSet_30
      exact ih4_ (x1 ||| 0) (x2 + 1) σ ⟨rfl, (by rw [zTe (zTadd (zTs x2) (zTl zt_1) (by omega) (by omega))]; omega), (by rw [zTe (zTadd (zTs x2) (zTl zt_1) (by omega) (by omega))]; omega)⟩ (by show (9 - (x2 + 1).toInt).toNat < (9 - x2.toInt).toNat; rw [zTe (zTadd (zTs x2) (zTl zt_1) (by omega) (by omega))]; omega)
    · have g15 := zne h12
      have e16 := zt_0
      unfold B_X7_shadedSet_30
      exact ih4_ (x1 ||| (1 <<< (x2 &&& 31))) (x2 + 1) σ ⟨rfl, (by rw [zTe (zTadd (zTs x2) (zTl zt_1) (by omega) (by omega))]; omega), (by rw [zTe (zTadd (zTs x2) (zTl zt_1) (by omega) (by omega))]; omega)⟩ (by show (9 - (x2 + 1).toInt).toNat < (9 - x2.toInt).toNat; rw [zTe (zTadd (zTs x2) (zTl zt_1) (by omega) (by omega))]; omega)

set_option maxHeartbeats 400000 in
theorem s_X7_cloth (a1 : Int32) (σ : zg_S) (hσ : IMc σ)  : zk (f_X7_cloth a1 σ) (fun r s => σ = s) := by
  unfold f_X7_cloth
  refine zk_ite (fun h1 => ?_) (fun h1 => ?_)
  · have g2 := zeq h1
    have e3 := zt_0
    unfold B_X7_cloth_44
    have z4 : zin (7 + a1) 3047 = true := zin_mkT (zTadd (zTl zt_7) (zTs a1) (by omega) (by omega)) (by omega) (by omega)
    refine zk_in z4 ?_
    exact zk_some rfl
  · have g5 := zne h1
    have e6 := zt_0
    refine zk_ite (fun h7 => ?_) (fun h7 => ?_)
    · have g8 := zeq h7
      have e9 := zt_1
      unfold B_X7_cloth_44
      have z10 : zin (7 + a1) 3047 = true := zin_mkT (zTadd (zTl zt_7) (zTs a1) (by omega) (by omega)) (by omega) (by omega)
      refine zk_in z10 ?_
      exact zk_some rfl
    · have g11 := zne h7
      have e12 := zt_1
      refine zk_ite (fun h13 => ?_) (fun h13 => ?_)
      · have g14 := zeq h13
        have e15 := zt_2
        unfold B_X7_cloth_44
        have z16 : zin (7 + a1) 3047 = true := zin_mkT (zTadd (zTl zt_7) (zTs a1) (by omega) (by omega)) (by omega) (by omega)
        refine zk_in z16 ?_
        exact zk_some rfl
      · have g17 := zne h13
        have e18 := zt_2
        refine zk_ite (fun h19 => ?_) (fun h19 => ?_)
        · have g20 := zeq h19
          have e21 := zt_3
          unfold B_X7_cloth_44
          have z22 : zin (7 + a1) 3047 = true := zin_mkT (zTadd (zTl zt_7) (zTs a1) (by omega) (by omega)) (by omega) (by omega)
          refine zk_in z22 ?_
          exact zk_some rfl
        · have g23 := zne h19
          have e24 := zt_3
          refine zk_ite (fun h25 => ?_) (fun h25 => ?_)
          · have g26 := zeq h25
            have e27 := zt_4
            refine zk_call (s_X7_heat σ hσ ) (fun r18 σ19 hp28 => ?_)
            subst hp28
            exact zk_some rfl
          · have g29 := zne h25
            have e30 := zt_4
            refine zk_ite (fun h31 => ?_) (fun h31 => ?_)
            · have g32 := zeq h31
              have e33 := zt_5
              refine zk_call (s_X7_firstShaded σ hσ ) (fun r28 σ29 hp34 => ?_)
              subst hp34
              refine zk_call (s_X7_orNone r28 σ hσ ) (fun r35 σ36 hp35 => ?_)
              subst hp35
              exact zk_some rfl
            · have g36 := zne h31
              have e37 := zt_5
              refine zk_ite (fun h38 => ?_) (fun h38 => ?_)
              · have g39 := zeq h38
                have e40 := zt_6
                refine zk_call (s_X7_shadedSet σ hσ ) (fun r45 σ46 hp41 => ?_)
                subst hp41
                exact zk_some rfl
              · have g42 := zne h38
                have e43 := zt_6
                exact zk_some rfl

set_option maxHeartbeats 400000 in
theorem s_X7_comes (a1 : Int32) (a2 : Int32) (a3 : Int32) (σ : zg_S) (hσ : IMc σ) (hp0_ : (σ 1 0).toInt ≤ 8) : zk (f_X7_comes a1 a2 a3 σ) (fun r s => IMc s ∧ hi σ s) := by
  unfold f_X7_comes
  have f1 : 0 ≤ (σ 1 0).toInt ∧ (σ 1 0).toInt ≤ 9 := IMf hσ 1 0
  refine zk_let (fun σ3 q4 => ?_)
  have hS2 : IMc σ3 := by rw [q4]; exact IMc.up hσ (zTadd (zTs (σ 1 0)) (zTl zt_1) (by omega) (by omega)) ⟨by omega, by omega⟩
  have g5 : (σ3 1 0).toInt = ((σ 1 0).toInt + 1) := by rw [q4]; exact (congrArg Int32.toInt zgot).trans (zTe (zTadd (zTs (σ 1 0)) (zTl zt_1) (by omega) (by omega)))
  have hH3 : hi σ σ3 := by rw [q4]; exact hi.up1z hi.rf
  have e6 := zt_0
  refine zk_call (s_X7_sets (σ 1 0) 0 a1 σ3 hS2 (by omega) (by omega) (by omega) (by omega)) (fun r9 σ10 hp7 => ?_)
  obtain ⟨hS8, hH9⟩ := hp7
  have e10 := zt_1
  refine zk_call (s_X7_sets (σ 1 0) 1 a2 σ10 hS8 (by omega) (by omega) (by omega) (by omega)) (fun r16 σ17 hp11 => ?_)
  obtain ⟨hS12, hH13⟩ := hp11
  have e14 := zt_2
  have e15 := zt_100
  refine zk_call (s_X7_sets (σ 1 0) 2 100 σ17 hS12 (by omega) (by omega) (by omega) (by omega)) (fun r23 σ24 hp16 => ?_)
  obtain ⟨hS17, hH18⟩ := hp16
  have e19 := zt_3
  refine zk_call (s_X7_sets (σ 1 0) 3 a3 σ24 hS17 (by omega) (by omega) (by omega) (by omega)) (fun r30 σ31 hp20 => ?_)
  obtain ⟨hS21, hH22⟩ := hp20
  exact zk_some ⟨hS21, ((((hH3.tr hH9).tr hH13).tr hH18).tr hH22)⟩

set_option maxHeartbeats 400000 in
theorem s_X7_isSheet (a0 : Int32) (σ : zg_S) (hσ : IMc σ)  : zk (f_X7_isSheet a0 σ) (fun r s => σ = s ∧ (r = 0 ∨ (r = 1 ∧ 0 ≤ a0.toInt ∧ a0.toInt ≤ 3))) := by
  unfold f_X7_isSheet
  have j1 := zI64 a0
  have j2 := zI64 0
  have e3 := zt_0
  have j4 := zI64 3
  have e5 := zt_3
  refine zk_call (s_X7_isIn (Int32.toInt64 a0) (Int32.toInt64 0) (Int32.toInt64 3) σ hσ ) (fun r1 σ2 hp6 => ?_)
  obtain ⟨rfl, x7⟩ := hp6
  refine zk_ck (x7.imp id And.left) ?_
  rcases x7 with rfl | ⟨rfl, _d9, _d10⟩
  · exact zk_some ⟨rfl, (by first | exact Or.inl rfl | exact Or.inr rfl | assumption | omega | exact Or.inr ⟨rfl, by omega, by omega⟩ | exact Or.inr ⟨by omega, by omega⟩)⟩
  · have e11 := zt_1
    exact zk_some ⟨rfl, (by first | exact Or.inl rfl | exact Or.inr rfl | assumption | omega | exact Or.inr ⟨rfl, by omega, by omega⟩ | exact Or.inr ⟨by omega, by omega⟩)⟩

