set_option maxHeartbeats 400000 in
theorem s_X6_told (a1 : Int32) (a2 : Int32) (σ : zg_S) (hσ : IX σ)  : zk (f_X6_told a1 a2 σ) (fun r s => IX s) := by
  unfold f_X6_told
  refine zk_call (s_X6_isStall a1 σ hσ ) (fun r1 σ2 hp1 => ?_)
  obtain ⟨rfl, x2⟩ := hp1
  have f3 : 0 ≤ (σ 153 3).toInt ∧ (σ 153 3).toInt ≤ 9 := IXf hσ xk_153 3
  refine zk_ite (fun h7 => ?_) (fun h7 => ?_)
  · have g8 := zeq h7
    have e9 := zt_0
    exact zk_some hσ
  · have g10 := zne h7
    have e11 := zt_0
    obtain ⟨_d4, _d5, _d6⟩ := x2.resolve_left h7
    have z12 : zin a1 9 = true := zin_mkT (zTs a1) (by omega) (by omega)
    refine zk_in z12 ?_
    refine zk_ite (fun h13 => ?_) (fun h13 => ?_)
    · have g14 := zeq h13
      exact zk_some hσ
    · have g15 := zne h13
      refine zk_ite (fun h16 => ?_) (fun h16 => ?_)
      · have g17 := zeq h16
        have e18 := zt_1
        exact zk_some hσ
      · have g19 := zne h16
        have e20 := zt_1
        refine zk_ite (fun h21 => ?_) (fun h21 => ?_)
        · have g22 := zeq h21
          have e23 := zt_2
          exact zk_some hσ
        · have g24 := zne h21
          have e25 := zt_2
          refine zk_ite (fun h26 => ?_) (fun h26 => ?_)
          · have g27 := zeq h26
            have e28 := zt_3
            exact zk_some hσ
          · have g29 := zne h26
            have e30 := zt_3
            refine zk_ite (fun h31 => ?_) (fun h31 => ?_)
            · have g32 := zeq h31
              have e33 := zt_4
              have e34 := zt_153
              refine zk_call (s_X0_lossOf 153 (154 + 2 + (Int32.toNatClampNeg a1)) σ hσ xk_153 (xS xk_154 (zIn z12).2)) (fun r29 σ30 hp35 => ?_)
              have hS36 := hp35
              exact zk_some hS36
            · have g37 := zne h31
              have e38 := zt_4
              refine zk_ite (fun h39 => ?_) (fun h39 => ?_)
              · have g40 := zeq h39
                have e41 := zt_5
                have e42 := zt_153
                refine zk_call (s_X0_shades 153 (σ (154 + 2 + (Int32.toNatClampNeg a1)) 1) σ hσ xk_153) (fun r39 σ40 hp43 => ?_)
                obtain ⟨rfl, x44⟩ := hp43
                refine zk_ite (fun h45 => ?_) (fun h45 => ?_)
                · have g46 := zeq h45
                  exact zk_some hσ
                · have g47 := zne h45
                  exact zk_some hσ
              · have g48 := zne h39
                have e49 := zt_5
                refine zk_ite (fun h50 => ?_) (fun h50 => ?_)
                · have g51 := zeq h50
                  have e52 := zt_6
                  refine zk_call (s_X4_worth (154 + 2 + (Int32.toNatClampNeg a1)) σ hσ (xS xk_154 (zIn z12).2)) (fun r52 σ53 hp53 => ?_)
                  subst hp53
                  exact zk_some hσ
                · have g54 := zne h50
                  have e55 := zt_6
                  exact zk_some hσ

set_option maxHeartbeats 400000 in
theorem s_X6_trim (a1 : Int32) (σ : zg_S) (hσ : IX σ)  : zk (f_X6_trim a1 σ) (fun r s => IX s) := by
  unfold f_X6_trim
  have e1 := zt_0
  refine zk_call (s_X6_within a1 0 (σ 0 10) σ hσ ) (fun r1 σ2 hp2 => ?_)
  obtain ⟨rfl, x3⟩ := hp2
  have f4 : 0 ≤ (σ 0 10).toInt ∧ (σ 0 10).toInt ≤ 96 := IXf hσ xk_0 10
  refine zk_ite (fun h8 => ?_) (fun h8 => ?_)
  · have g9 := zeq h8
    exact zk_some hσ
  · have g10 := zne h8
    obtain ⟨_d5, _d6, _d7⟩ := x3.resolve_left h8
    refine zk_let (fun σ10 q12 => ?_)
    have hS11 : IX σ10 := by rw [q12]; exact IX.up hσ xk_0 (xconT (zTs a1) ⟨by omega, by omega⟩)
    exact zk_some hS11

set_option maxHeartbeats 400000 in
theorem s_X6_turns (a1 : Int32) (a2 : Int32) (σ : zg_S) (hσ : IX σ)  : zk (f_X6_turns a1 a2 σ) (fun r s => IX s) := by
  unfold f_X6_turns
  refine zk_call (s_X6_isStall a1 σ hσ ) (fun r1 σ2 hp1 => ?_)
  obtain ⟨rfl, x2⟩ := hp1
  have f3 : 0 ≤ (σ 153 3).toInt ∧ (σ 153 3).toInt ≤ 9 := IXf hσ xk_153 3
  refine zk_ite (fun h7 => ?_) (fun h7 => ?_)
  · have g8 := zeq h7
    have e9 := zt_0
    exact zk_some hσ
  · have g10 := zne h7
    have e11 := zt_0
    obtain ⟨_d4, _d5, _d6⟩ := x2.resolve_left h7
    have e12 := zt_5
    refine zk_call (s_X6_within a2 0 5 σ hσ ) (fun r11 σ12 hp13 => ?_)
    obtain ⟨rfl, x14⟩ := hp13
    refine zk_ite (fun h18 => ?_) (fun h18 => ?_)
    · have g19 := zeq h18
      exact zk_some hσ
    · have g20 := zne h18
      obtain ⟨_d15, _d16, _d17⟩ := x14.resolve_left h18
      have z21 : zin a1 9 = true := zin_mkT (zTs a1) (by omega) (by omega)
      refine zk_in z21 ?_
      refine zk_let (fun y25 ey22 => ?_)
      refine zk_let (fun σ30 q24 => ?_)
      have hS23 : IX σ30 := by rw [q24]; exact IX.up hσ (xS xk_154 (zIn z21).2) trivial
      exact zk_some hS23

set_option maxHeartbeats 400000 in
theorem s_X6_whose (a1 : Int32) (a2 : Int32) (a3 : Int32) (σ : zg_S) (hσ : IX σ)  : zk (f_X6_whose a1 a2 a3 σ) (fun r s => IX s) := by
  unfold f_X6_whose
  refine zk_call (s_X6_isSheet a1 σ hσ ) (fun r48 σ49 hp1 => ?_)
  obtain ⟨rfl, x2⟩ := hp1
  refine zk_ite (fun h6 => ?_) (fun h6 => ?_)
  · have g7 := zeq h6
    have e8 := zt_0
    exact zk_some hσ
  · have g9 := zne h6
    have e10 := zt_0
    obtain ⟨_d3, _d4, _d5⟩ := x2.resolve_left h6
    have e11 := zt_60
    refine zk_call (s_X6_within a2 0 60 σ hσ ) (fun r58 σ59 hp12 => ?_)
    obtain ⟨rfl, x13⟩ := hp12
    refine zk_ite (fun h17 => ?_) (fun h17 => ?_)
    · have g18 := zeq h17
      exact zk_some hσ
    · have g19 := zne h17
      obtain ⟨_d14, _d15, _d16⟩ := x13.resolve_left h17
      have e20 := zt_1
      refine zk_call (s_X6_within a3 0 1 σ hσ ) (fun r68 σ69 hp21 => ?_)
      obtain ⟨rfl, x22⟩ := hp21
      refine zk_ite (fun h26 => ?_) (fun h26 => ?_)
      · have g27 := zeq h26
        exact zk_some hσ
      · have g28 := zne h26
        obtain ⟨_d23, _d24, _d25⟩ := x22.resolve_left h26
        have z29 : zin a1 4 = true := zin_mkT (zTs a1) (by omega) (by omega)
        refine zk_in z29 ?_
        refine zk_call (s_X2_isMissing (53 + 2 * (Int32.toNatClampNeg a1)) σ hσ (xH (zIn z29).2)) (fun r80 σ81 hp30 => ?_)
        obtain ⟨rfl, x31⟩ := hp30
        refine zk_ite (fun h32 => ?_) (fun h32 => ?_)
        · have g33 := zeq h32
          unfold L_X6_whose_54
          refine zl_III (fun (x4 : Int32) (x5 : Int32) (x6 : Int32) (s54_ : zg_S) => IX s54_ ∧ 0 ≤ x6.toInt ∧ x6.toInt ≤ 3) (fun (x4 : Int32) (x5 : Int32) (x6 : Int32) (s54_ : zg_S) => (3 - x6.toInt).toNat) ?_ zfu 0 2147483647 0 σ ⟨hσ, (by omega), (by omega)⟩ (by unfold zfu; omega)
          intro rec54_ x4 x5 x6 s54_ hI34 ih54_
          obtain ⟨hS35, i36, i37⟩ := hI34
          unfold B_X6_whose_54
          refine zk_ite (fun h38 => ?_) (fun h38 => ?_)
          · have g39 := zle h38
            have e40 := zt_3
            refine zk_ite (fun h41 => ?_) (fun h41 => ?_)
            · have g42 := zeq h41
              have e43 := zt_0
              exact zk_some hS35
            · have g44 := zne h41
              have e45 := zt_0
              exact zk_some hS35
          · have g46 := znle h38
            have e47 := zt_3
            have e48 := zt_165
            have e49 := zt_153
            refine zk_call (s_X0_takeOver 165 153 s54_ hS35 xk_165 xk_153) (fun r9 σ10 hp50 => ?_)
            have hS51 := hp50
            refine zk_let (fun σ16 q53 => ?_)
            have hS52 : IX σ16 := by rw [q53]; exact IX.up hS51 xk_165 trivial
            refine zk_call (s_X6_thinkOn a2 σ16 hS52 (by omega)) (fun r22 σ23 hp54 => ?_)
            have hS55 := hp54
            refine zk_in z29 ?_
            refine zk_call (s_X0_differencesFrom 165 (53 + 2 * (Int32.toNatClampNeg a1)) σ23 hS55 xk_165 (xH (zIn z29).2)) (fun r32 σ33 hp56 => ?_)
            subst hp56
            refine zk_ite (fun h57 => ?_) (fun h57 => ?_)
            · have g58 := zle h57
              unfold B_X6_whose_115
              exact ih54_ x4 x5 (x6 + 1) σ23 ⟨hS55, (by rw [zTe (zTadd (zTs x6) (zTl zt_1) (by omega) (by omega))]; omega), (by rw [zTe (zTadd (zTs x6) (zTl zt_1) (by omega) (by omega))]; omega)⟩ (by show (3 - (x6 + 1).toInt).toNat < (3 - x6.toInt).toNat; rw [zTe (zTadd (zTs x6) (zTl zt_1) (by omega) (by omega))]; omega)
            · have g59 := znle h57
              unfold B_X6_whose_115
              exact ih54_ x6 r32 (x6 + 1) σ23 ⟨hS55, (by rw [zTe (zTadd (zTs x6) (zTl zt_1) (by omega) (by omega))]; omega), (by rw [zTe (zTadd (zTs x6) (zTl zt_1) (by omega) (by omega))]; omega)⟩ (by show (3 - (x6 + 1).toInt).toNat < (3 - x6.toInt).toNat; rw [zTe (zTadd (zTs x6) (zTl zt_1) (by omega) (by omega))]; omega)
        · have g60 := zne h32
          exact zk_some hσ

set_option maxHeartbeats 400000 in
theorem s_X6_why (a1 : Int32) (σ : zg_S) (hσ : IX σ)  : zk (f_X6_why a1 σ) (fun r s => σ = s) := by
  unfold f_X6_why
  have e1 := zt_0
  have e2 := zt_2
  refine zk_call (s_X6_within a1 0 2 σ hσ ) (fun r1 σ2 hp3 => ?_)
  obtain ⟨rfl, x4⟩ := hp3
  refine zk_ite (fun h8 => ?_) (fun h8 => ?_)
  · have g9 := zeq h8
    exact zk_some rfl
  · have g10 := zne h8
    obtain ⟨_d5, _d6, _d7⟩ := x4.resolve_left h8
    have z11 : zin a1 3 = true := zin_mkT (zTs a1) (by omega) (by omega)
    refine zk_in z11 ?_
    exact zk_some rfl

set_option maxHeartbeats 400000 in
theorem s_X6_wider (a1 : Int32) (a2 : Int32) (σ : zg_S) (hσ : IX σ)  : zk (f_X6_wider a1 a2 σ) (fun r s => IX s) := by
  unfold f_X6_wider
  have e1 := zt_0
  have e2 := zt_9999
  refine zk_call (s_X6_within a1 0 9999 σ hσ ) (fun r30 σ31 hp3 => ?_)
  obtain ⟨rfl, x4⟩ := hp3
  refine zk_ite (fun h8 => ?_) (fun h8 => ?_)
  · have g9 := zeq h8
    exact zk_some hσ
  · have g10 := zne h8
    obtain ⟨_d5, _d6, _d7⟩ := x4.resolve_left h8
    have e11 := zt_1
    have e12 := zt_60
    refine zk_call (s_X6_within a2 1 60 σ hσ ) (fun r40 σ41 hp13 => ?_)
    obtain ⟨rfl, x14⟩ := hp13
    refine zk_ite (fun h18 => ?_) (fun h18 => ?_)
    · have g19 := zeq h18
      exact zk_some hσ
    · have g20 := zne h18
      obtain ⟨_d15, _d16, _d17⟩ := x14.resolve_left h18
      unfold L_X6_wider_26
      refine zl_I (fun (x3 : Int32) (s26_ : zg_S) => IX s26_ ∧ 0 ≤ x3.toInt ∧ x3.toInt ≤ 7) (fun (x3 : Int32) (s26_ : zg_S) => (7 - x3.toInt).toNat) ?_ zfu 1 σ ⟨hσ, (by omega), (by omega)⟩ (by unfold zfu; omega)
      intro rec26_ x3 s26_ hI21 ih26_
      obtain ⟨hS22, i23, i24⟩ := hI21
      unfold B_X6_wider_26
      refine zk_ite (fun h25 => ?_) (fun h25 => ?_)
      · have g26 := zlt h25
        have e27 := zt_6
        exact zk_some hS22
      · have g28 := znlt h25
        have e29 := zt_6
        have e30 := zt_165
        have e31 := zt_153
        refine zk_call (s_X0_takeOver 165 153 s26_ hS22 xk_165 xk_153) (fun r4 σ5 hp32 => ?_)
        have hS33 := hp32
        refine zk_call (s_X0_widen 165 x3 σ5 hS33 xk_165) (fun r11 σ12 hp34 => ?_)
        have hS35 := hp34
        refine zk_call (s_X6_thinkOn a2 σ12 hS35 (by omega)) (fun r18 σ19 hp36 => ?_)
        have hS37 := hp36
        refine zk_ite (fun h38 => ?_) (fun h38 => ?_)
        · have g39 := zlt h38
          exact ih26_ (x3 + 1) σ19 ⟨hS37, (by rw [zTe (zTadd (zTs x3) (zTl zt_1) (by omega) (by omega))]; omega), (by rw [zTe (zTadd (zTs x3) (zTl zt_1) (by omega) (by omega))]; omega)⟩ (by show (7 - (x3 + 1).toInt).toNat < (7 - x3.toInt).toNat; rw [zTe (zTadd (zTs x3) (zTl zt_1) (by omega) (by omega))]; omega)
        · have g40 := znlt h38
          exact zk_some hS37

set_option maxHeartbeats 400000 in
theorem s_X6_without (a1 : Int32) (a2 : Int32) (σ : zg_S) (hσ : IX σ)  : zk (f_X6_without a1 a2 σ) (fun r s => IX s) := by
  unfold f_X6_without
  have e1 := zt_1
  have e2 := zt_60
  refine zk_call (s_X6_within a1 1 60 σ hσ ) (fun r39 σ40 hp3 => ?_)
  obtain ⟨rfl, x4⟩ := hp3
  refine zk_ite (fun h8 => ?_) (fun h8 => ?_)
  · have g9 := zeq h8
    have e10 := zt_0
    exact zk_some hσ
  · have g11 := zne h8
    have e12 := zt_0
    obtain ⟨_d5, _d6, _d7⟩ := x4.resolve_left h8
    refine zk_call (s_X6_within a2 0 1 σ hσ ) (fun r49 σ50 hp13 => ?_)
    obtain ⟨rfl, x14⟩ := hp13
    refine zk_ite (fun h18 => ?_) (fun h18 => ?_)
    · have g19 := zeq h18
      exact zk_some hσ
    · have g20 := zne h18
      obtain ⟨_d15, _d16, _d17⟩ := x14.resolve_left h18
      refine zk_ite (fun h21 => ?_) (fun h21 => ?_)
      · have g22 := zeq h21
        have f23 : 0 ≤ (σ 153 3).toInt ∧ (σ 153 3).toInt ≤ 9 := IXf hσ xk_153 3
        exact zk_some hσ
      · have g24 := zne h21
        have f25 : 0 ≤ (σ 153 3).toInt ∧ (σ 153 3).toInt ≤ 9 := IXf hσ xk_153 3
        unfold L_X6_without_43
        refine zl_III (fun (x3 : Int32) (x4 : Int32) (x5 : Int32) (s43_ : zg_S) => IX s43_ ∧ 0 ≤ x5.toInt ∧ x5.toInt ≤ 9) (fun (x3 : Int32) (x4 : Int32) (x5 : Int32) (s43_ : zg_S) => (9 - x5.toInt).toNat) ?_ zfu 0 (-1) 0 σ ⟨hσ, (by omega), (by omega)⟩ (by unfold zfu; omega)
        intro rec43_ x3 x4 x5 s43_ hI26 ih43_
        obtain ⟨hS27, i28, i29⟩ := hI26
        unfold B_X6_without_43
        refine zk_ite (fun h30 => ?_) (fun h30 => ?_)
        · have g31 := zle h30
          have f32 : 0 ≤ (s43_ 153 3).toInt ∧ (s43_ 153 3).toInt ≤ 9 := IXf hS27 xk_153 3
          refine zk_ite (fun h33 => ?_) (fun h33 => ?_)
          · have g34 := zeq h33
            have e35 := zt_0
            exact zk_some hS27
          · have g36 := zne h33
            have e37 := zt_0
            exact zk_some hS27
        · have g38 := znle h30
          have f39 : 0 ≤ (s43_ 153 3).toInt ∧ (s43_ 153 3).toInt ≤ 9 := IXf hS27 xk_153 3
          have e40 := zt_165
          have e41 := zt_153
          refine zk_call (s_X0_takeOver 165 153 s43_ hS27 xk_165 xk_153) (fun r9 σ10 hp42 => ?_)
          have hS43 := hp42
          have z44 : zin x5 9 = true := zin_mkT (zTs x5) (by omega) (by omega)
          refine zk_in z44 ?_
          refine zk_let (fun σ19 q46 => ?_)
          have hS45 : IX σ19 := by rw [q46]; exact IX.up hS43 (xS xk_166 (zIn z44).2) trivial
          refine zk_call (s_X6_thinkOn a1 σ19 hS45 (by omega)) (fun r25 σ26 hp47 => ?_)
          have hS48 := hp47
          refine zk_ite (fun h49 => ?_) (fun h49 => ?_)
          · have g50 := zle h49
            unfold B_X6_without_109
            exact ih43_ x3 x4 (x5 + 1) σ26 ⟨hS48, (by rw [zTe (zTadd (zTs x5) (zTl zt_1) (by omega) (by omega))]; omega), (by rw [zTe (zTadd (zTs x5) (zTl zt_1) (by omega) (by omega))]; omega)⟩ (by show (9 - (x5 + 1).toInt).toNat < (9 - x5.toInt).toNat; rw [zTe (zTadd (zTs x5) (zTl zt_1) (by omega) (by omega))]; omega)
          · have g51 := znle h49
            unfold B_X6_without_109
            exact ih43_ x5 (σ26 165 10) (x5 + 1) σ26 ⟨hS48, (by rw [zTe (zTadd (zTs x5) (zTl zt_1) (by omega) (by omega))]; omega), (by rw [zTe (zTadd (zTs x5) (zTl zt_1) (by omega) (by omega))]; omega)⟩ (by show (9 - (x5 + 1).toInt).toNat < (9 - x5.toInt).toNat; rw [zTe (zTadd (zTs x5) (zTl zt_1) (by omega) (by omega))]; omega)

