set_option maxHeartbeats 400000 in
theorem s_X6_check (a1 : Int32) (σ : zg_S) (hσ : IX σ)  : zk (f_X6_check a1 σ) (fun r s => IX s) := by
  unfold f_X6_check
  refine zk_let (fun σ47 q2 => ?_)
  have hS1 : IX σ47 := by rw [q2]; exact IX.up hσ xk_0 (xconT (zTl zt_0) ⟨by omega, by omega⟩)
  have e3 := zt_1
  have e4 := zt_30
  refine zk_call (s_X6_within a1 1 30 σ47 hS1 ) (fun r53 σ54 hp5 => ?_)
  obtain ⟨rfl, x6⟩ := hp5
  refine zk_ite (fun h10 => ?_) (fun h10 => ?_)
  · have g11 := zeq h10
    have e12 := zt_0
    exact zk_some hS1
  · have g13 := zne h10
    have e14 := zt_0
    obtain ⟨_d7, _d8, _d9⟩ := x6.resolve_left h10
    refine zk_ite (fun h15 => ?_) (fun h15 => ?_)
    · have g16 := zeq h15
      exact zk_some hS1
    · have g17 := zne h15
      have e18 := zt_165
      have e19 := zt_177
      refine zk_call (s_X0_takeOver 165 177 σ47 hS1 xk_165 xk_177) (fun r64 σ65 hp20 => ?_)
      have hS21 := hp20
      refine zk_let (fun y71 ey22 => ?_)
      have g23 := zmin ey22
      have f24 : 0 ≤ (σ 0 11).toInt ∧ (σ 0 11).toInt ≤ 60 := IXf hσ xk_0 11
      unfold L_X6_check_64
      refine zl_III (fun (x2 : Int32) (x3 : Int32) (x4 : Int32) (s64_ : zg_S) => IX s64_ ∧ 0 ≤ x2.toInt ∧ x2.toInt ≤ 60 ∧ x3.toInt ≤ 30 ∧ 0 ≤ x4.toInt ∧ x4.toInt ≤ 30) (fun (x2 : Int32) (x3 : Int32) (x4 : Int32) (s64_ : zg_S) => (30 - x4.toInt).toNat) ?_ zfu (σ 0 11) y71 0 σ65 ⟨hS21, (by omega), (by omega), (by omega), (by omega), (by omega)⟩ (by unfold zfu; omega)
      intro rec64_ x2 x3 x4 s64_ hI25 ih64_
      obtain ⟨hS26, i27, i28, i29, i30, i31⟩ := hI25
      unfold B_X6_check_64
      refine zk_ite (fun h32 => ?_) (fun h32 => ?_)
      · have g33 := zle h32
        refine zk_ite (fun h34 => ?_) (fun h34 => ?_)
        · have g35 := zle h34
          exact zk_some hS26
        · have g36 := znle h34
          exact zk_some hS26
      · have g37 := znle h32
        have e38 := zt_165
        refine zk_call (s_X0_hauling 165 s64_ hS26 xk_165) (fun r9 σ10 hp39 => ?_)
        have hS40 := hp39
        refine zk_call (s_X0_passHour 165 r9 σ10 hS40 xk_165) (fun r16 σ17 hp41 => ?_)
        have hS42 := hp41
        refine zk_ite (fun h43 => ?_) (fun h43 => ?_)
        · have g44 := zle h43
          have e45 := zt_2
          have e46 := zmulL x4 2 2 zt_2 (by omega) (by omega)
          unfold B_X6_check_113
          exact zk_some hS42
        · have g47 := znle h43
          have e48 := zt_2
          have e49 := zmulL x4 2 2 zt_2 (by omega) (by omega)
          have z50 : zin (2 * x4) 60 = true := zin_mkT (zTmul (zTl zt_2) (zTs x4) (by omega) (by omega)) (by omega) (by omega)
          refine zk_in z50 ?_
          refine zk_ite (fun h51 => ?_) (fun h51 => ?_)
          · have g52 := zeq h51
            refine zk_ite (fun h53 => ?_) (fun h53 => ?_)
            · have g54 := zle h53
              have e55 := zt_1
              have e56 := zadd (2 * x4) 1 (by omega) (by omega)
              unfold B_X6_check_145
              exact zk_some hS42
            · have g57 := znle h53
              have e58 := zt_1
              have e59 := zadd (2 * x4) 1 (by omega) (by omega)
              have z60 : zin ((2 * x4) + 1) 60 = true := zin_mkT (zTadd (zTmul (zTl zt_2) (zTs x4) (by omega) (by omega)) (zTl zt_1) (by omega) (by omega)) (by omega) (by omega)
              refine zk_in z60 ?_
              refine zk_ite (fun h61 => ?_) (fun h61 => ?_)
              · have g62 := zeq h61
                exact ih64_ x2 x3 (x4 + 1) σ17 ⟨hS42, (by omega), (by omega), (by omega), (by rw [zTe (zTadd (zTs x4) (zTl zt_1) (by omega) (by omega))]; omega), (by rw [zTe (zTadd (zTs x4) (zTl zt_1) (by omega) (by omega))]; omega)⟩ (by show (30 - (x4 + 1).toInt).toNat < (30 - x4.toInt).toNat; rw [zTe (zTadd (zTs x4) (zTl zt_1) (by omega) (by omega))]; omega)
              · have g63 := zne h61
                unfold B_X6_check_145
                exact zk_some hS42
          · have g64 := zne h51
            unfold B_X6_check_113
            exact zk_some hS42

set_option maxHeartbeats 400000 in
theorem s_X6_cloth (a1 : Int32) (σ : zg_S) (hσ : IX σ)  : zk (f_X6_cloth a1 σ) (fun r s => σ = s) := by
  unfold f_X6_cloth
  refine zk_ite (fun h1 => ?_) (fun h1 => ?_)
  · have g2 := zeq h1
    have e3 := zt_0
    exact zk_some rfl
  · have g4 := zne h1
    have e5 := zt_0
    refine zk_ite (fun h6 => ?_) (fun h6 => ?_)
    · have g7 := zeq h6
      have e8 := zt_1
      exact zk_some rfl
    · have g9 := zne h6
      have e10 := zt_1
      refine zk_ite (fun h11 => ?_) (fun h11 => ?_)
      · have g12 := zeq h11
        have e13 := zt_2
        exact zk_some rfl
      · have g14 := zne h11
        have e15 := zt_2
        refine zk_ite (fun h16 => ?_) (fun h16 => ?_)
        · have g17 := zeq h16
          have e18 := zt_3
          exact zk_some rfl
        · have g19 := zne h16
          have e20 := zt_3
          refine zk_ite (fun h21 => ?_) (fun h21 => ?_)
          · have g22 := zeq h21
            have e23 := zt_4
            have e24 := zt_153
            refine zk_call (s_X0_heat 153 σ hσ xk_153) (fun r15 σ16 hp25 => ?_)
            subst hp25
            exact zk_some rfl
          · have g26 := zne h21
            have e27 := zt_4
            refine zk_ite (fun h28 => ?_) (fun h28 => ?_)
            · have g29 := zeq h28
              have e30 := zt_5
              have e31 := zt_153
              refine zk_call (s_X0_firstShaded 153 σ hσ xk_153) (fun r25 σ26 hp32 => ?_)
              subst hp32
              exact zk_some rfl
            · have g33 := zne h28
              have e34 := zt_5
              refine zk_ite (fun h35 => ?_) (fun h35 => ?_)
              · have g36 := zeq h35
                have e37 := zt_6
                have e38 := zt_153
                refine zk_call (s_X0_shadedSet 153 σ hσ xk_153) (fun r35 σ36 hp39 => ?_)
                subst hp39
                exact zk_some rfl
              · have g40 := zne h35
                have e41 := zt_6
                exact zk_some rfl

theorem s_X6_isSheet (a0 : Int32) (σ : zg_S) (hσ : IX σ) : zk (f_X6_isSheet a0 σ) (fun r s => σ = s ∧ (r = 0 ∨ (r = 1 ∧ 0 ≤ a0.toInt ∧ a0.toInt ≤ 3))) := by
  unfold f_X6_isSheet
  have e1 := zt_3
  have e0 := zt_0
  refine zk_call (s_X6_within a0 0 3 σ hσ) (fun r s hp => ?_)
  obtain ⟨rfl, x⟩ := hp
  rcases x with rfl | ⟨rfl, d1, d2⟩
  · exact zk_ck (Or.inl rfl) (zk_some ⟨rfl, Or.inl rfl⟩)
  · exact zk_ck (Or.inr rfl) (zk_some ⟨rfl, Or.inr ⟨rfl, by omega, by omega⟩⟩)

set_option maxHeartbeats 400000 in
theorem s_X6_copy (a1 : Int32) (a2 : Int32) (a3 : Int32) (a4 : Int32) (a5 : Int32) (σ : zg_S) (hσ : IX σ)  : zk (f_X6_copy a1 a2 a3 a4 a5 σ) (fun r s => IX s) := by
  unfold f_X6_copy
  refine zk_call (s_X6_isSheet a1 σ hσ ) (fun r1 σ2 hp1 => ?_)
  obtain ⟨rfl, x2⟩ := hp1
  refine zk_ite (fun h6 => ?_) (fun h6 => ?_)
  · have g7 := zeq h6
    have e8 := zt_0
    exact zk_some hσ
  · have g9 := zne h6
    have e10 := zt_0
    obtain ⟨_d3, _d4, _d5⟩ := x2.resolve_left h6
    refine zk_call (s_X6_isSheet a3 σ hσ ) (fun r11 σ12 hp11 => ?_)
    obtain ⟨rfl, x12⟩ := hp11
    refine zk_ite (fun h16 => ?_) (fun h16 => ?_)
    · have g17 := zeq h16
      exact zk_some hσ
    · have g18 := zne h16
      obtain ⟨_d13, _d14, _d15⟩ := x12.resolve_left h16
      have z19 : zin a1 4 = true := zin_mkT (zTs a1) (by omega) (by omega)
      refine zk_in z19 ?_
      have z20 : zin a3 4 = true := zin_mkT (zTs a3) (by omega) (by omega)
      refine zk_in z20 ?_
      refine zk_call (s_X2_isMissing (53 + 2 * (Int32.toNatClampNeg a1)) σ hσ (xH (zIn z19).2)) (fun r30 σ31 hp21 => ?_)
      obtain ⟨rfl, x22⟩ := hp21
      refine zk_ite (fun h23 => ?_) (fun h23 => ?_)
      · have g24 := zeq h23
        refine zk_call (s_X2_isMissing (53 + 2 * (Int32.toNatClampNeg a3)) σ hσ (xH (zIn z20).2)) (fun r40 σ41 hp25 => ?_)
        obtain ⟨rfl, x26⟩ := hp25
        refine zk_ite (fun h27 => ?_) (fun h27 => ?_)
        · have g28 := zeq h27
          refine zk_ite (fun h29 => ?_) (fun h29 => ?_)
          · have g30 := zeq h29
            refine zk_call (s_X2_hasPlaces (53 + 2 * (Int32.toNatClampNeg a1)) a2 a5 σ hσ (xH (zIn z19).2)) (fun r51 σ52 hp31 => ?_)
            obtain ⟨rfl, x32⟩ := hp31
            have f33 : 0 ≤ (σ (53 + 2 * (Int32.toNatClampNeg a1)) 1).toInt ∧ (σ (53 + 2 * (Int32.toNatClampNeg a1)) 1).toInt ≤ 24 := IXf hσ (xH (zIn z19).2) 1
            refine zk_ite (fun h38 => ?_) (fun h38 => ?_)
            · have g39 := zeq h38
              exact zk_some hσ
            · have g40 := zne h38
              obtain ⟨_d34, _d35, _d36, _d37⟩ := x32.resolve_left h38
              refine zk_call (s_X2_hasPlaces (53 + 2 * (Int32.toNatClampNeg a3)) a4 a5 σ hσ (xH (zIn z20).2)) (fun r61 σ62 hp41 => ?_)
              obtain ⟨rfl, x42⟩ := hp41
              have f43 : 0 ≤ (σ (53 + 2 * (Int32.toNatClampNeg a3)) 1).toInt ∧ (σ (53 + 2 * (Int32.toNatClampNeg a3)) 1).toInt ≤ 24 := IXf hσ (xH (zIn z20).2) 1
              refine zk_ite (fun h48 => ?_) (fun h48 => ?_)
              · have g49 := zeq h48
                exact zk_some hσ
              · have g50 := zne h48
                obtain ⟨_d44, _d45, _d46, _d47⟩ := x42.resolve_left h48
                refine zk_ck (by first | assumption | decide | omega | exact zcp (by omega) (by omega) (by omega) (by omega) (by omega)) ?_
                refine zk_let (fun σ76 q52 => ?_)
                have hS51 : IX σ76 := by rw [q52]; exact IX.row hσ (xH1 (xH (zIn z20).2))
                exact zk_some hS51
          · have g53 := zne h29
            exact zk_some hσ
        · have g54 := zne h27
          exact zk_some hσ
      · have g55 := zne h23
        exact zk_some hσ

set_option maxHeartbeats 400000 in
theorem s_X6_count (a1 : Int32) (σ : zg_S) (hσ : IX σ)  : zk (f_X6_count a1 σ) (fun r s => σ = s) := by
  unfold f_X6_count
  refine zk_ite (fun h1 => ?_) (fun h1 => ?_)
  · have g2 := zeq h1
    have e3 := zt_0
    exact zk_some rfl
  · have g4 := zne h1
    have e5 := zt_0
    refine zk_ite (fun h6 => ?_) (fun h6 => ?_)
    · have g7 := zeq h6
      have e8 := zt_1
      exact zk_some rfl
    · have g9 := zne h6
      have e10 := zt_1
      refine zk_ite (fun h11 => ?_) (fun h11 => ?_)
      · have g12 := zeq h11
        have e13 := zt_2
        have e14 := zt_153
        refine zk_call (s_X0_shadedSet 153 σ hσ xk_153) (fun r9 σ10 hp15 => ?_)
        subst hp15
        refine zk_call (s_J6_bitCount_0f7a4 r9 σ hσ ) (fun r16 σ17 hp16 => ?_)
        subst hp16
        exact zk_some rfl
      · have g17 := zne h11
        have e18 := zt_2
        refine zk_ite (fun h19 => ?_) (fun h19 => ?_)
        · have g20 := zeq h19
          have e21 := zt_3
          exact zk_some rfl
        · have g22 := zne h19
          have e23 := zt_3
          refine zk_ite (fun h24 => ?_) (fun h24 => ?_)
          · have g25 := zeq h24
            have e26 := zt_4
            exact zk_some rfl
          · have g27 := zne h24
            have e28 := zt_4
            refine zk_ite (fun h29 => ?_) (fun h29 => ?_)
            · have g30 := zeq h29
              have e31 := zt_5
              exact zk_some rfl
            · have g32 := zne h29
              have e33 := zt_5
              refine zk_ite (fun h34 => ?_) (fun h34 => ?_)
              · have g35 := zeq h34
                have e36 := zt_6
                exact zk_some rfl
              · have g37 := zne h34
                have e38 := zt_6
                exact zk_some rfl

set_option maxHeartbeats 400000 in
theorem s_X6_deal (a1 : Int32) (σ : zg_S) (hσ : IX σ)  : zk (f_X6_deal a1 σ) (fun r s => IX s) := by
  unfold f_X6_deal
  have e1 := zt_1
  have e2 := zt_9
  refine zk_call (s_X6_within a1 1 9 σ hσ ) (fun r40 σ41 hp3 => ?_)
  obtain ⟨rfl, x4⟩ := hp3
  refine zk_ite (fun h8 => ?_) (fun h8 => ?_)
  · have g9 := zeq h8
    have e10 := zt_0
    exact zk_some hσ
  · have g11 := zne h8
    have e12 := zt_0
    obtain ⟨_d5, _d6, _d7⟩ := x4.resolve_left h8
    refine zk_let (fun y49 ey13 => ?_)
    have g14 := zmin ey13
    unfold L_X6_deal_30
    refine zl_II (fun (x2 : Int32) (x3 : Int32) (s30_ : zg_S) => IX s30_ ∧ x2.toInt ≤ 9 ∧ 0 ≤ x3.toInt ∧ x3.toInt ≤ 9) (fun (x2 : Int32) (x3 : Int32) (s30_ : zg_S) => (9 - x3.toInt).toNat) ?_ zfu y49 0 σ ⟨hσ, (by omega), (by omega), (by omega)⟩ (by unfold zfu; omega)
    intro rec30_ x2 x3 s30_ hI15 ih30_
    obtain ⟨hS16, i17, i18, i19⟩ := hI15
    unfold B_X6_deal_30
    refine zk_ite (fun h20 => ?_) (fun h20 => ?_)
    · have g21 := zle h20
      exact zk_some hS16
    · have g22 := znle h20
      have e23 := zt_153
      refine zk_call (s_X0_draw 153 s30_ hS16 xk_153) (fun r4 σ5 hp24 => ?_)
      have hS25 := hp24
      refine zk_call (s_X0_draw 153 σ5 hS25 xk_153) (fun r13 σ14 hp26 => ?_)
      have hS27 := hp26
      refine zk_call (s_X0_draw 153 σ14 hS27 xk_153) (fun r22 σ23 hp28 => ?_)
      have hS29 := hp28
      refine zk_call (s_X0_open 153 (r4 - r4 / 6 * 6) (r13 - r13 / 12 * 12) (r22 - r22 / 40 * 40) σ23 hS29 xk_153) (fun r31 σ32 hp30 => ?_)
      have hS31 := hp30
      exact ih30_ x2 (x3 + 1) σ32 ⟨hS31, (by omega), (by rw [zTe (zTadd (zTs x3) (zTl zt_1) (by omega) (by omega))]; omega), (by rw [zTe (zTadd (zTs x3) (zTl zt_1) (by omega) (by omega))]; omega)⟩ (by show (9 - (x3 + 1).toInt).toNat < (9 - x3.toInt).toNat; rw [zTe (zTadd (zTs x3) (zTl zt_1) (by omega) (by omega))]; omega)

set_option maxHeartbeats 400000 in
theorem s_X6_fee  (σ : zg_S) (hσ : IX σ)  : zk (f_X6_fee  σ) (fun r s => IX s) := by
  unfold f_X6_fee
  have e1 := zt_0
  have e2 := zt_13
  refine zk_call (s_X6_within (σ 155 1) 0 13 σ hσ ) (fun r3 σ4 hp3 => ?_)
  obtain ⟨rfl, x4⟩ := hp3
  refine zk_ite (fun h8 => ?_) (fun h8 => ?_)
  · have g9 := zeq h8
    exact zk_some hσ
  · have g10 := zne h8
    obtain ⟨_d5, _d6, _d7⟩ := x4.resolve_left h8
    have z11 : zin (σ 155 1) 14 = true := zin_mkT (zTs (σ 155 1)) (by omega) (by omega)
    refine zk_in z11 ?_
    refine zk_call (s_X5_workOut (11 + 3 * (Int32.toNatClampNeg (σ 155 1))) (σ 153 10) (σ 153 12) 0 σ hσ (xT (zIn z11).2)) (fun r15 σ16 hp12 => ?_)
    have hS13 := hp12
    exact zk_some hS13

