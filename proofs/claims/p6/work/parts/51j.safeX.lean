set_option maxHeartbeats 400000 in
theorem s_X6_feedBytes (a1 : Int32) (σ : zg_S) (hσ : IX σ)  : zk (f_X6_feedBytes a1 σ) (fun r s => IX s) := by
  unfold f_X6_feedBytes
  have e1 := zt_24
  unfold L_X6_feedBytes_3
  refine zl_I (fun (x2 : Int32) (s3_ : zg_S) => IX s3_ ∧ x2.toInt ≤ 24 ∧ -8 ≤ x2.toInt) (fun (x2 : Int32) (s3_ : zg_S) => (x2.toInt + 8).toNat) ?_ zfu 24 σ ⟨hσ, (by omega), (by omega)⟩ (by unfold zfu; omega)
  intro rec3_ x2 s3_ hI2 ih3_
  obtain ⟨hS3, i4, i5⟩ := hI2
  unfold B_X6_feedBytes_3
  refine zk_ite (fun h6 => ?_) (fun h6 => ?_)
  · have g7 := zlt h6
    have e8 := zt_0
    exact zk_some hS3
  · have g9 := znlt h6
    have e10 := zt_0
    refine zk_ite (fun h11 => ?_) (fun h11 => ?_)
    · have g12 := zle h11
      have e13 := zt_96
      have f14 : 0 ≤ (s3_ 0 10).toInt ∧ (s3_ 0 10).toInt ≤ 96 := IXf hS3 xk_0 10
      exact zk_some hS3
    · have g15 := znle h11
      have e16 := zt_96
      have f17 : 0 ≤ (s3_ 0 10).toInt ∧ (s3_ 0 10).toInt ≤ 96 := IXf hS3 xk_0 10
      refine zk_let (fun y7 ey18 => ?_)
      have z19 : zin (s3_ 0 10) 96 = true := zin_mkT (zTs (s3_ 0 10)) (by omega) (by omega)
      refine zk_in z19 ?_
      refine zk_let (fun σ13 q21 => ?_)
      have hS20 : IX σ13 := by rw [q21]; exact IX.up hS3 xk_6 trivial
      have kp22 : σ13 0 10 = s3_ 0 10 := by rw [q21]; exact zkeep xk_6 xk_0 rfl
      refine zk_let (fun σ19 q24 => ?_)
      have g25 := congrArg Int32.toInt (kp22.trans rfl)
      have f26 : 0 ≤ (σ13 0 10).toInt ∧ (σ13 0 10).toInt ≤ 96 := IXf hS20 xk_0 10
      have hS23 : IX σ19 := by rw [q24]; exact IX.up hS20 xk_0 (xconT (zTadd (zTs (σ13 0 10)) (zTl zt_1) (by omega) (by omega)) ⟨by omega, by omega⟩)
      exact ih3_ (x2 + (-8)) σ19 ⟨hS23, (by rw [zTe (zTadd (zTs x2) (zTl zt_m8) (by omega) (by omega))]; omega), (by rw [zTe (zTadd (zTs x2) (zTl zt_m8) (by omega) (by omega))]; omega)⟩ (by show ((x2 + (-8)).toInt + 8).toNat < (x2.toInt + 8).toNat; rw [zTe (zTadd (zTs x2) (zTl zt_m8) (by omega) (by omega))]; omega)

set_option maxHeartbeats 400000 in
theorem s_X6_feed (a1 : Int32) (a2 : Int32) (a3 : Int32) (σ : zg_S) (hσ : IX σ)  : zk (f_X6_feed a1 a2 a3 σ) (fun r s => IX s) := by
  unfold f_X6_feed
  refine zk_ite (fun h1 => ?_) (fun h1 => ?_)
  · have g2 := zle h1
    have f3 : 0 ≤ (σ 0 10).toInt ∧ (σ 0 10).toInt ≤ 96 := IXf hσ xk_0 10
    have e4 := zt_96
    refine zk_call (s_X6_feedBytes a1 σ hσ ) (fun r3 σ4 hp5 => ?_)
    have hS6 := hp5
    refine zk_call (s_X6_feedBytes a2 σ4 hS6 ) (fun r10 σ11 hp7 => ?_)
    have hS8 := hp7
    refine zk_call (s_X6_feedBytes a3 σ11 hS8 ) (fun r17 σ18 hp9 => ?_)
    have hS10 := hp9
    exact zk_some hS10
  · have g11 := znle h1
    have f12 : 0 ≤ (σ 0 10).toInt ∧ (σ 0 10).toInt ≤ 96 := IXf hσ xk_0 10
    have e13 := zt_96
    exact zk_some hσ

set_option maxHeartbeats 400000 in
theorem s_X6_fine (a1 : Int32) (σ : zg_S) (hσ : IX σ)  : zk (f_X6_fine a1 σ) (fun r s => IX s) := by
  unfold f_X6_fine
  refine zk_call (s_X6_isStall a1 σ hσ ) (fun r1 σ2 hp1 => ?_)
  obtain ⟨rfl, x2⟩ := hp1
  have f3 : 0 ≤ (σ 153 3).toInt ∧ (σ 153 3).toInt ≤ 9 := IXf hσ xk_153 3
  refine zk_ite (fun h7 => ?_) (fun h7 => ?_)
  · have g8 := zeq h7
    have e9 := zt_0
    exact zk_some hσ
  · have g10 := zne h7
    have e11 := zt_0
    obtain ⟨_d4, _d5, _d6⟩ := x2.resolve_left h7
    have z12 : zin a1 9 = true := zin_mkT (zTs a1) (by omega) (by omega)
    refine zk_in z12 ?_
    have e13 := zt_13
    refine zk_call (s_X6_within (σ 155 2) 0 13 σ hσ ) (fun r17 σ18 hp14 => ?_)
    obtain ⟨rfl, x15⟩ := hp14
    refine zk_ite (fun h19 => ?_) (fun h19 => ?_)
    · have g20 := zeq h19
      exact zk_some hσ
    · have g21 := zne h19
      obtain ⟨_d16, _d17, _d18⟩ := x15.resolve_left h19
      have z22 : zin (σ 155 2) 14 = true := zin_mkT (zTs (σ 155 2)) (by omega) (by omega)
      refine zk_in z22 ?_
      have e23 := zt_153
      refine zk_call (s_X0_shades 153 (σ (154 + 2 + (Int32.toNatClampNeg a1)) 1) σ hσ xk_153) (fun r29 σ30 hp24 => ?_)
      obtain ⟨rfl, x25⟩ := hp24
      refine zk_ite (fun h26 => ?_) (fun h26 => ?_)
      · have g27 := zeq h26
        refine zk_call (s_X5_workOut (11 + 3 * (Int32.toNatClampNeg (σ 155 2))) (σ (154 + 2 + (Int32.toNatClampNeg a1)) 2) 0 0 σ hσ (xT (zIn z22).2)) (fun r38 σ39 hp28 => ?_)
        have hS29 := hp28
        exact zk_some hS29
      · have g30 := zne h26
        have e31 := zt_1
        refine zk_call (s_X5_workOut (11 + 3 * (Int32.toNatClampNeg (σ 155 2))) (σ (154 + 2 + (Int32.toNatClampNeg a1)) 2) 1 0 σ hσ (xT (zIn z22).2)) (fun r46 σ47 hp32 => ?_)
        have hS33 := hp32
        exact zk_some hS33

set_option maxHeartbeats 400000 in
theorem s_X6_goods (a1 : Int32) (a2 : Int32) (σ : zg_S) (hσ : IX σ)  : zk (f_X6_goods a1 a2 σ) (fun r s => IX s) := by
  unfold f_X6_goods
  refine zk_call (s_X6_isStall a1 σ hσ ) (fun r1 σ2 hp1 => ?_)
  obtain ⟨rfl, x2⟩ := hp1
  have f3 : 0 ≤ (σ 153 3).toInt ∧ (σ 153 3).toInt ≤ 9 := IXf hσ xk_153 3
  refine zk_ite (fun h7 => ?_) (fun h7 => ?_)
  · have g8 := zeq h7
    have e9 := zt_0
    exact zk_some hσ
  · have g10 := zne h7
    have e11 := zt_0
    obtain ⟨_d4, _d5, _d6⟩ := x2.resolve_left h7
    have e12 := zt_100
    refine zk_call (s_X6_within a2 0 100 σ hσ ) (fun r11 σ12 hp13 => ?_)
    obtain ⟨rfl, x14⟩ := hp13
    refine zk_ite (fun h18 => ?_) (fun h18 => ?_)
    · have g19 := zeq h18
      exact zk_some hσ
    · have g20 := zne h18
      obtain ⟨_d15, _d16, _d17⟩ := x14.resolve_left h18
      have e21 := zt_165
      have e22 := zt_153
      refine zk_call (s_X0_takeOver 165 153 σ hσ xk_165 xk_153) (fun r20 σ21 hp23 => ?_)
      have hS24 := hp23
      refine zk_call (s_X6_thinkOn a2 σ21 hS24 (by omega)) (fun r27 σ28 hp25 => ?_)
      have hS26 := hp25
      have z27 : zin a1 9 = true := zin_mkT (zTs a1) (by omega) (by omega)
      refine zk_in z27 ?_
      exact zk_some hS26

set_option maxHeartbeats 400000 in
theorem s_X6_hours (a1 : Int32) (σ : zg_S) (hσ : IX σ)  : zk (f_X6_hours a1 σ) (fun r s => IX s) := by
  unfold f_X6_hours
  have e1 := zt_1
  have e2 := zt_100
  refine zk_call (s_X6_within a1 1 100 σ hσ ) (fun r20 σ21 hp3 => ?_)
  obtain ⟨rfl, x4⟩ := hp3
  refine zk_ite (fun h8 => ?_) (fun h8 => ?_)
  · have g9 := zeq h8
    have e10 := zt_0
    exact zk_some hσ
  · have g11 := zne h8
    have e12 := zt_0
    obtain ⟨_d5, _d6, _d7⟩ := x4.resolve_left h8
    refine zk_let (fun y31 ey13 => ?_)
    have g14 := zmin ey13
    unfold L_X6_hours_40
    refine zl_III (fun (x2 : Int32) (x3 : Int32) (x4 : Int32) (s40_ : zg_S) => IX s40_ ∧ x3.toInt ≤ 100 ∧ 0 ≤ x4.toInt ∧ x4.toInt ≤ 100) (fun (x2 : Int32) (x3 : Int32) (x4 : Int32) (s40_ : zg_S) => (100 - x4.toInt).toNat) ?_ zfu (σ 153 11) y31 0 σ ⟨hσ, (by omega), (by omega), (by omega)⟩ (by unfold zfu; omega)
    intro rec40_ x2 x3 x4 s40_ hI15 ih40_
    obtain ⟨hS16, i17, i18, i19⟩ := hI15
    unfold B_X6_hours_40
    refine zk_ite (fun h20 => ?_) (fun h20 => ?_)
    · have g21 := zle h20
      exact zk_some hS16
    · have g22 := znle h20
      have e23 := zt_153
      refine zk_call (s_X0_hauling 153 s40_ hS16 xk_153) (fun r4 σ5 hp24 => ?_)
      have hS25 := hp24
      refine zk_call (s_X0_passHour 153 r4 σ5 hS25 xk_153) (fun r11 σ12 hp26 => ?_)
      have hS27 := hp26
      exact ih40_ x2 x3 (x4 + 1) σ12 ⟨hS27, (by omega), (by rw [zTe (zTadd (zTs x4) (zTl zt_1) (by omega) (by omega))]; omega), (by rw [zTe (zTadd (zTs x4) (zTl zt_1) (by omega) (by omega))]; omega)⟩ (by show (100 - (x4 + 1).toInt).toNat < (100 - x4.toInt).toNat; rw [zTe (zTadd (zTs x4) (zTl zt_1) (by omega) (by omega))]; omega)

set_option maxHeartbeats 400000 in
theorem s_X6_item (a1 : Int32) (a2 : Int32) (σ : zg_S) (hσ : IX σ)  : zk (f_X6_item a1 a2 σ) (fun r s => σ = s) := by
  unfold f_X6_item
  refine zk_call (s_X6_isSlot a1 σ hσ ) (fun r1 σ2 hp1 => ?_)
  obtain ⟨rfl, x2⟩ := hp1
  refine zk_ite (fun h6 => ?_) (fun h6 => ?_)
  · have g7 := zeq h6
    have e8 := zt_0
    exact zk_some rfl
  · have g9 := zne h6
    have e10 := zt_0
    obtain ⟨_d3, _d4, _d5⟩ := x2.resolve_left h6
    have z11 : zin a1 5 = true := zin_mkT (zTs a1) (by omega) (by omega)
    refine zk_in z11 ?_
    have e12 := zt_2
    refine zk_call (s_X3_refuses (61 + 4 * (Int32.toNatClampNeg a1)) 2 σ hσ (xO (zIn z11).2)) (fun r13 σ14 hp13 => ?_)
    subst hp13
    refine zk_ite (fun h14 => ?_) (fun h14 => ?_)
    · have g15 := zeq h14
      refine zk_call (s_X2_hasPlace ((61 + 4 * (Int32.toNatClampNeg a1)) + 2) a2 σ hσ (xO2 (xO (zIn z11).2))) (fun r26 σ27 hp16 => ?_)
      obtain ⟨rfl, x17⟩ := hp16
      have f18 : 0 ≤ (σ ((61 + 4 * (Int32.toNatClampNeg a1)) + 2) 1).toInt ∧ (σ ((61 + 4 * (Int32.toNatClampNeg a1)) + 2) 1).toInt ≤ 24 := IXf hσ (xO2 (xO (zIn z11).2)) 1
      refine zk_ite (fun h22 => ?_) (fun h22 => ?_)
      · have g23 := zeq h22
        exact zk_some rfl
      · have g24 := zne h22
        obtain ⟨_d19, _d20, _d21⟩ := x17.resolve_left h22
        refine zk_call (s_X2_hasNumber ((61 + 4 * (Int32.toNatClampNeg a1)) + 2) a2 σ hσ (xO2 (xO (zIn z11).2))) (fun r35 σ36 hp25 => ?_)
        obtain ⟨rfl, x26⟩ := hp25
        refine zk_ite (fun h30 => ?_) (fun h30 => ?_)
        · have g31 := zeq h30
          exact zk_some rfl
        · have g32 := zne h30
          obtain ⟨_d27, _d28, _d29⟩ := x26.resolve_left h30
          have z33 : zin a2 24 = true := zin_mkT (zTs a2) (by omega) (by omega)
          refine zk_in z33 ?_
          exact zk_some rfl
    · have g34 := zne h14
      exact zk_some rfl

set_option maxHeartbeats 400000 in
theorem s_X6_keep  (σ : zg_S) (hσ : IX σ)  : zk (f_X6_keep  σ) (fun r s => IX s) := by
  unfold f_X6_keep
  have e1 := zt_177
  have e2 := zt_153
  refine zk_call (s_X0_takeOver 177 153 σ hσ xk_177 xk_153) (fun r1 σ2 hp3 => ?_)
  have hS4 := hp3
  refine zk_let (fun σ8 q6 => ?_)
  have hS5 : IX σ8 := by rw [q6]; exact IX.up hS4 xk_0 trivial
  exact zk_some hS5

set_option maxHeartbeats 400000 in
theorem s_X6_lay (a1 : Int32) (a2 : Int32) (a3 : Int32) (σ : zg_S) (hσ : IX σ)  : zk (f_X6_lay a1 a2 a3 σ) (fun r s => IX s) := by
  unfold f_X6_lay
  refine zk_call (s_X6_isSlot a1 σ hσ ) (fun r7 σ8 hp1 => ?_)
  obtain ⟨rfl, x2⟩ := hp1
  refine zk_ite (fun h6 => ?_) (fun h6 => ?_)
  · have g7 := zeq h6
    have e8 := zt_0
    exact zk_some hσ
  · have g9 := zne h6
    have e10 := zt_0
    obtain ⟨_d3, _d4, _d5⟩ := x2.resolve_left h6
    have e11 := zt_3
    refine zk_call (s_X6_within a2 0 3 σ hσ ) (fun r17 σ18 hp12 => ?_)
    obtain ⟨rfl, x13⟩ := hp12
    refine zk_ite (fun h17 => ?_) (fun h17 => ?_)
    · have g18 := zeq h17
      exact zk_some hσ
    · have g19 := zne h17
      obtain ⟨_d14, _d15, _d16⟩ := x13.resolve_left h17
      have z20 : zin a1 5 = true := zin_mkT (zTs a1) (by omega) (by omega)
      refine zk_in z20 ?_
      refine zk_let (fun y31 ey21 => ?_)
      refine zk_ite (fun h22 => ?_) (fun h22 => ?_)
      · have g23 := zeq h22
        have e24 := zt_1
        refine zk_call (s_X6_isStall a3 σ hσ ) (fun r81 σ82 hp25 => ?_)
        obtain ⟨rfl, x26⟩ := hp25
        have f27 : 0 ≤ (σ 153 3).toInt ∧ (σ 153 3).toInt ≤ 9 := IXf hσ xk_153 3
        refine zk_ite (fun h31 => ?_) (fun h31 => ?_)
        · have g32 := zeq h31
          exact zk_some hσ
        · have g33 := zne h31
          obtain ⟨_d28, _d29, _d30⟩ := x26.resolve_left h31
          have z34 : zin a3 9 = true := zin_mkT (zTs a3) (by omega) (by omega)
          refine zk_in z34 ?_
          refine zk_call (s_X4_takeOver ((61 + 4 * (Int32.toNatClampNeg a1)) + 1) (154 + 2 + (Int32.toNatClampNeg a3)) σ hσ (xO1 (xO (zIn z20).2)) (xS xk_154 (zIn z34).2)) (fun r93 σ94 hp35 => ?_)
          have hS36 := hp35
          unfold B_X6_lay_128
          refine zk_let (fun σ1 q38 => ?_)
          have hS37 : IX σ1 := by rw [q38]; exact IX.up hS36 (xO (zIn z20).2) trivial
          exact zk_some hS37
      · have g39 := zne h22
        have e40 := zt_1
        refine zk_ite (fun h41 => ?_) (fun h41 => ?_)
        · have g42 := zeq h41
          have e43 := zt_2
          refine zk_call (s_X6_isSheet a3 σ hσ ) (fun r50 σ51 hp44 => ?_)
          obtain ⟨rfl, x45⟩ := hp44
          refine zk_ite (fun h49 => ?_) (fun h49 => ?_)
          · have g50 := zeq h49
            exact zk_some hσ
          · have g51 := zne h49
            obtain ⟨_d46, _d47, _d48⟩ := x45.resolve_left h49
            have z52 : zin a3 4 = true := zin_mkT (zTs a3) (by omega) (by omega)
            refine zk_in z52 ?_
            refine zk_call (s_X2_isMissing (53 + 2 * (Int32.toNatClampNeg a3)) σ hσ (xH (zIn z52).2)) (fun r62 σ63 hp53 => ?_)
            obtain ⟨rfl, x54⟩ := hp53
            refine zk_ite (fun h55 => ?_) (fun h55 => ?_)
            · have g56 := zeq h55
              refine zk_call (s_X2_takeOver ((61 + 4 * (Int32.toNatClampNeg a1)) + 2) (53 + 2 * (Int32.toNatClampNeg a3)) σ hσ (xO2 (xO (zIn z20).2)) (xH (zIn z52).2)) (fun r71 σ72 hp57 => ?_)
              have hS58 := hp57
              unfold B_X6_lay_128
              refine zk_let (fun σ1 q60 => ?_)
              have hS59 : IX σ1 := by rw [q60]; exact IX.up hS58 (xO (zIn z20).2) trivial
              exact zk_some hS59
            · have g61 := zne h55
              exact zk_some hσ
        · have g62 := zne h41
          have e63 := zt_2
          refine zk_ite (fun h64 => ?_) (fun h64 => ?_)
          · have g65 := zeq h64
            refine zk_let (fun σ43 q67 => ?_)
            have hS66 : IX σ43 := by rw [q67]; exact IX.up hσ (xO (zIn z20).2) trivial
            unfold B_X6_lay_128
            refine zk_let (fun σ1 q69 => ?_)
            have hS68 : IX σ1 := by rw [q69]; exact IX.up hS66 (xO (zIn z20).2) trivial
            exact zk_some hS68
          · have g70 := zne h64
            unfold B_X6_lay_128
            refine zk_let (fun σ1 q72 => ?_)
            have hS71 : IX σ1 := by rw [q72]; exact IX.up hσ (xO (zIn z20).2) trivial
            exact zk_some hS71

