set_option maxHeartbeats 400000 in
theorem s_X6_seed (a1 : Int32) (σ : zg_S) (hσ : IX σ)  : zk (f_X6_seed a1 σ) (fun r s => IX s) := by
  unfold f_X6_seed
  refine zk_let (fun σ3 q2 => ?_)
  have hS1 : IX σ3 := by rw [q2]; exact IX.up hσ xk_153 trivial
  exact zk_some hS1

set_option maxHeartbeats 400000 in
theorem s_X6_setPlace (q0 : Nat) (a1 : Int32) (σ : zg_S) (hσ : IX σ) (hq0 : XL.2.1 q0 = 4) : zk (f_X6_setPlace q0 a1 σ) (fun r s => IX s) := by
  unfold f_X6_setPlace
  have e1 := zt_0
  have e2 := zt_11
  refine zk_call (s_X6_within a1 0 11 σ hσ ) (fun r1 σ2 hp3 => ?_)
  obtain ⟨rfl, x4⟩ := hp3
  refine zk_ite (fun h8 => ?_) (fun h8 => ?_)
  · have g9 := zeq h8
    exact zk_some hσ
  · have g10 := zne h8
    obtain ⟨_d5, _d6, _d7⟩ := x4.resolve_left h8
    refine zk_let (fun σ12 q12 => ?_)
    have hS11 : IX σ12 := by rw [q12]; exact IX.up hσ hq0 trivial
    exact zk_some hS11

set_option maxHeartbeats 400000 in
theorem s_X6_setGoods (q0 : Nat) (a1 : Int32) (σ : zg_S) (hσ : IX σ) (hq0 : XL.2.1 q0 = 4) : zk (f_X6_setGoods q0 a1 σ) (fun r s => IX s) := by
  unfold f_X6_setGoods
  have e1 := zt_0
  have e2 := zt_999
  refine zk_call (s_X6_within a1 0 999 σ hσ ) (fun r1 σ2 hp3 => ?_)
  obtain ⟨rfl, x4⟩ := hp3
  refine zk_ite (fun h8 => ?_) (fun h8 => ?_)
  · have g9 := zeq h8
    exact zk_some hσ
  · have g10 := zne h8
    obtain ⟨_d5, _d6, _d7⟩ := x4.resolve_left h8
    refine zk_let (fun σ12 q12 => ?_)
    have hS11 : IX σ12 := by rw [q12]; exact IX.up hσ hq0 trivial
    exact zk_some hS11

set_option maxHeartbeats 400000 in
theorem s_X6_setPay (q0 : Nat) (a1 : Int32) (σ : zg_S) (hσ : IX σ) (hq0 : XL.2.1 q0 = 4) : zk (f_X6_setPay q0 a1 σ) (fun r s => IX s) := by
  unfold f_X6_setPay
  have e1 := zt_0
  have e2 := zt_99
  refine zk_call (s_X6_within a1 0 99 σ hσ ) (fun r1 σ2 hp3 => ?_)
  obtain ⟨rfl, x4⟩ := hp3
  refine zk_ite (fun h8 => ?_) (fun h8 => ?_)
  · have g9 := zeq h8
    exact zk_some hσ
  · have g10 := zne h8
    obtain ⟨_d5, _d6, _d7⟩ := x4.resolve_left h8
    refine zk_let (fun σ12 q12 => ?_)
    have hS11 : IX σ12 := by rw [q12]; exact IX.up hσ hq0 trivial
    exact zk_some hS11

set_option maxHeartbeats 400000 in
theorem s_X6_set (a1 : Int32) (a2 : Int32) (a3 : Int32) (σ : zg_S) (hσ : IX σ)  : zk (f_X6_set a1 a2 a3 σ) (fun r s => IX s) := by
  unfold f_X6_set
  refine zk_call (s_X6_isStall a1 σ hσ ) (fun r1 σ2 hp1 => ?_)
  obtain ⟨rfl, x2⟩ := hp1
  have f3 : 0 ≤ (σ 153 3).toInt ∧ (σ 153 3).toInt ≤ 9 := IXf hσ xk_153 3
  refine zk_ite (fun h7 => ?_) (fun h7 => ?_)
  · have g8 := zeq h7
    have e9 := zt_0
    exact zk_some hσ
  · have g10 := zne h7
    have e11 := zt_0
    obtain ⟨_d4, _d5, _d6⟩ := x2.resolve_left h7
    refine zk_ite (fun h12 => ?_) (fun h12 => ?_)
    · have g13 := zeq h12
      have e14 := zt_1
      have z15 : zin a1 9 = true := zin_mkT (zTs a1) (by omega) (by omega)
      refine zk_in z15 ?_
      refine zk_call (s_X6_setPlace (154 + 2 + (Int32.toNatClampNeg a1)) a3 σ hσ (xS xk_154 (zIn z15).2)) (fun r15 σ16 hp16 => ?_)
      have hS17 := hp16
      exact zk_some hS17
    · have g18 := zne h12
      have e19 := zt_1
      refine zk_ite (fun h20 => ?_) (fun h20 => ?_)
      · have g21 := zeq h20
        have e22 := zt_2
        have z23 : zin a1 9 = true := zin_mkT (zTs a1) (by omega) (by omega)
        refine zk_in z23 ?_
        refine zk_call (s_X6_setGoods (154 + 2 + (Int32.toNatClampNeg a1)) a3 σ hσ (xS xk_154 (zIn z23).2)) (fun r28 σ29 hp24 => ?_)
        have hS25 := hp24
        exact zk_some hS25
      · have g26 := zne h20
        have e27 := zt_2
        refine zk_ite (fun h28 => ?_) (fun h28 => ?_)
        · have g29 := zeq h28
          have e30 := zt_3
          have z31 : zin a1 9 = true := zin_mkT (zTs a1) (by omega) (by omega)
          refine zk_in z31 ?_
          refine zk_call (s_X6_setPay (154 + 2 + (Int32.toNatClampNeg a1)) a3 σ hσ (xS xk_154 (zIn z31).2)) (fun r41 σ42 hp32 => ?_)
          have hS33 := hp32
          exact zk_some hS33
        · have g34 := zne h28
          have e35 := zt_3
          exact zk_some hσ

set_option maxHeartbeats 400000 in
theorem s_X6_shaded (a1 : Int32) (a2 : Int32) (σ : zg_S) (hσ : IX σ)  : zk (f_X6_shaded a1 a2 σ) (fun r s => IX s) := by
  unfold f_X6_shaded
  refine zk_call (s_X6_isStall a1 σ hσ ) (fun r41 σ42 hp1 => ?_)
  obtain ⟨rfl, x2⟩ := hp1
  have f3 : 0 ≤ (σ 153 3).toInt ∧ (σ 153 3).toInt ≤ 9 := IXf hσ xk_153 3
  refine zk_ite (fun h7 => ?_) (fun h7 => ?_)
  · have g8 := zeq h7
    have e9 := zt_0
    exact zk_some hσ
  · have g10 := zne h7
    have e11 := zt_0
    obtain ⟨_d4, _d5, _d6⟩ := x2.resolve_left h7
    have e12 := zt_1
    have e13 := zt_60
    refine zk_call (s_X6_within a2 1 60 σ hσ ) (fun r51 σ52 hp14 => ?_)
    obtain ⟨rfl, x15⟩ := hp14
    refine zk_ite (fun h19 => ?_) (fun h19 => ?_)
    · have g20 := zeq h19
      exact zk_some hσ
    · have g21 := zne h19
      obtain ⟨_d16, _d17, _d18⟩ := x15.resolve_left h19
      have e22 := zt_165
      have e23 := zt_153
      refine zk_call (s_X0_takeOver 165 153 σ hσ xk_165 xk_153) (fun r60 σ61 hp24 => ?_)
      have hS25 := hp24
      have z26 : zin a1 9 = true := zin_mkT (zTs a1) (by omega) (by omega)
      refine zk_in z26 ?_
      refine zk_let (fun y70 ey27 => ?_)
      unfold L_X6_shaded_51
      refine zl_III (fun (x3 : Int32) (x4 : Int32) (x5 : Int32) (s51_ : zg_S) => IX s51_ ∧ 0 ≤ x5.toInt ∧ x5.toInt ≤ 60) (fun (x3 : Int32) (x4 : Int32) (x5 : Int32) (s51_ : zg_S) => (60 - x5.toInt).toNat) ?_ zfu y70 0 0 σ61 ⟨hS25, (by omega), (by omega)⟩ (by unfold zfu; omega)
      intro rec51_ x3 x4 x5 s51_ hI28 ih51_
      obtain ⟨hS29, i30, i31⟩ := hI28
      unfold B_X6_shaded_51
      refine zk_ite (fun h32 => ?_) (fun h32 => ?_)
      · have g33 := zle h32
        exact zk_some hS29
      · have g34 := znle h32
        have e35 := zt_165
        refine zk_call (s_X0_hauling 165 s51_ hS29 xk_165) (fun r13 σ14 hp36 => ?_)
        have hS37 := hp36
        refine zk_call (s_X0_hauledTo 165 r13 σ14 hS37 xk_165) (fun r22 σ23 hp38 => ?_)
        subst hp38
        refine zk_call (s_X0_wouldShade 165 r22 x3 σ14 hS37 xk_165) (fun r29 σ30 hp39 => ?_)
        obtain ⟨rfl, x40⟩ := hp39
        refine zk_ite (fun h41 => ?_) (fun h41 => ?_)
        · have g42 := zeq h41
          have e43 := zt_0
          unfold B_X6_shaded_89
          refine zk_call (s_X0_passHour 165 r13 σ14 hS37 xk_165) (fun r1 σ2 hp44 => ?_)
          have hS45 := hp44
          exact ih51_ x3 x4 (x5 + 1) σ2 ⟨hS45, (by rw [zTe (zTadd (zTs x5) (zTl zt_1) (by omega) (by omega))]; omega), (by rw [zTe (zTadd (zTs x5) (zTl zt_1) (by omega) (by omega))]; omega)⟩ (by show (60 - (x5 + 1).toInt).toNat < (60 - x5.toInt).toNat; rw [zTe (zTadd (zTs x5) (zTl zt_1) (by omega) (by omega))]; omega)
        · have g46 := zne h41
          have e47 := zt_0
          unfold B_X6_shaded_89
          refine zk_call (s_X0_passHour 165 r13 σ14 hS37 xk_165) (fun r1 σ2 hp48 => ?_)
          have hS49 := hp48
          exact ih51_ x3 (x4 + 1) (x5 + 1) σ2 ⟨hS49, (by rw [zTe (zTadd (zTs x5) (zTl zt_1) (by omega) (by omega))]; omega), (by rw [zTe (zTadd (zTs x5) (zTl zt_1) (by omega) (by omega))]; omega)⟩ (by show (60 - (x5 + 1).toInt).toNat < (60 - x5.toInt).toNat; rw [zTe (zTadd (zTs x5) (zTl zt_1) (by omega) (by omega))]; omega)

set_option maxHeartbeats 400000 in
theorem s_X6_sheet (a1 : Int32) (a2 : Int32) (a3 : Int32) (σ : zg_S) (hσ : IX σ)  : zk (f_X6_sheet a1 a2 a3 σ) (fun r s => IX s) := by
  unfold f_X6_sheet
  refine zk_call (s_X6_isSheet a1 σ hσ ) (fun r1 σ2 hp1 => ?_)
  obtain ⟨rfl, x2⟩ := hp1
  refine zk_ite (fun h6 => ?_) (fun h6 => ?_)
  · have g7 := zeq h6
    have e8 := zt_0
    exact zk_some hσ
  · have g9 := zne h6
    have e10 := zt_0
    obtain ⟨_d3, _d4, _d5⟩ := x2.resolve_left h6
    have e11 := zt_m1
    have e12 := zt_1
    refine zk_call (s_X6_within a2 (-1) 1 σ hσ ) (fun r11 σ12 hp13 => ?_)
    obtain ⟨rfl, x14⟩ := hp13
    refine zk_ite (fun h18 => ?_) (fun h18 => ?_)
    · have g19 := zeq h18
      exact zk_some hσ
    · have g20 := zne h18
      obtain ⟨_d15, _d16, _d17⟩ := x14.resolve_left h18
      refine zk_ite (fun h21 => ?_) (fun h21 => ?_)
      · have g22 := zeq h21
        have z23 : zin a1 4 = true := zin_mkT (zTs a1) (by omega) (by omega)
        refine zk_in z23 ?_
        refine zk_call (s_X2_become (53 + 2 * (Int32.toNatClampNeg a1)) (-1) 0 σ hσ (xH (zIn z23).2)) (fun r42 σ43 hp24 => ?_)
        have hS25 := hp24
        exact zk_some hS25
      · have g26 := zne h21
        refine zk_ite (fun h27 => ?_) (fun h27 => ?_)
        · have g28 := zle h27
          have e29 := zt_24
          refine zk_ite (fun h30 => ?_) (fun h30 => ?_)
          · have g31 := zle h30
            have z32 : zin a1 4 = true := zin_mkT (zTs a1) (by omega) (by omega)
            refine zk_in z32 ?_
            refine zk_call (s_X2_become (53 + 2 * (Int32.toNatClampNeg a1)) a2 a3 σ hσ (xH (zIn z32).2)) (fun r29 σ30 hp33 => ?_)
            have hS34 := hp33
            exact zk_some hS34
          · have g35 := znle h30
            exact zk_some hσ
        · have g36 := znle h27
          have e37 := zt_24
          exact zk_some hσ

set_option maxHeartbeats 400000 in
theorem s_X6_stall (a1 : Int32) (a2 : Int32) (a3 : Int32) (σ : zg_S) (hσ : IX σ)  : zk (f_X6_stall a1 a2 a3 σ) (fun r s => IX s) := by
  unfold f_X6_stall
  have e1 := zt_0
  have e2 := zt_5
  refine zk_call (s_X6_within a1 0 5 σ hσ ) (fun r1 σ2 hp3 => ?_)
  obtain ⟨rfl, x4⟩ := hp3
  refine zk_ite (fun h8 => ?_) (fun h8 => ?_)
  · have g9 := zeq h8
    exact zk_some hσ
  · have g10 := zne h8
    obtain ⟨_d5, _d6, _d7⟩ := x4.resolve_left h8
    have e11 := zt_11
    refine zk_call (s_X6_within a2 0 11 σ hσ ) (fun r11 σ12 hp12 => ?_)
    obtain ⟨rfl, x13⟩ := hp12
    refine zk_ite (fun h17 => ?_) (fun h17 => ?_)
    · have g18 := zeq h17
      exact zk_some hσ
    · have g19 := zne h17
      obtain ⟨_d14, _d15, _d16⟩ := x13.resolve_left h17
      have e20 := zt_99
      refine zk_call (s_X6_within a3 0 99 σ hσ ) (fun r21 σ22 hp21 => ?_)
      obtain ⟨rfl, x22⟩ := hp21
      refine zk_ite (fun h26 => ?_) (fun h26 => ?_)
      · have g27 := zeq h26
        exact zk_some hσ
      · have g28 := zne h26
        obtain ⟨_d23, _d24, _d25⟩ := x22.resolve_left h26
        refine zk_ite (fun h29 => ?_) (fun h29 => ?_)
        · have g30 := zlt h29
          have f31 : 0 ≤ (σ 153 3).toInt ∧ (σ 153 3).toInt ≤ 9 := IXf hσ xk_153 3
          have e32 := zt_9
          have e33 := zt_153
          refine zk_call (s_X0_open 153 a1 a2 a3 σ hσ xk_153) (fun r32 σ33 hp34 => ?_)
          have hS35 := hp34
          exact zk_some hS35
        · have g36 := znlt h29
          have f37 : 0 ≤ (σ 153 3).toInt ∧ (σ 153 3).toInt ≤ 9 := IXf hσ xk_153 3
          have e38 := zt_9
          exact zk_some hσ

set_option maxHeartbeats 400000 in
theorem s_X6_tell (a1 : Int32) (σ : zg_S) (hσ : IX σ)  : zk (f_X6_tell a1 σ) (fun r s => IX s) := by
  unfold f_X6_tell
  refine zk_ite (fun h1 => ?_) (fun h1 => ?_)
  · have g2 := zlt h1
    have f3 : 0 ≤ (σ 0 11).toInt ∧ (σ 0 11).toInt ≤ 60 := IXf hσ xk_0 11
    have e4 := zt_60
    have z5 : zin (σ 0 11) 60 = true := zin_mkT (zTs (σ 0 11)) (by omega) (by omega)
    refine zk_in z5 ?_
    refine zk_let (fun σ6 q7 => ?_)
    have hS6 : IX σ6 := by rw [q7]; exact IX.up hσ xk_5 trivial
    have kp8 : σ6 0 11 = σ 0 11 := by rw [q7]; exact zkeep xk_5 xk_0 rfl
    refine zk_let (fun σ12 q10 => ?_)
    have g11 := congrArg Int32.toInt (kp8.trans rfl)
    have f12 : 0 ≤ (σ6 0 11).toInt ∧ (σ6 0 11).toInt ≤ 60 := IXf hS6 xk_0 11
    have hS9 : IX σ12 := by rw [q10]; exact IX.up hS6 xk_0 (xconT (zTadd (zTs (σ6 0 11)) (zTl zt_1) (by omega) (by omega)) ⟨by omega, by omega⟩)
    exact zk_some hS9
  · have g13 := znlt h1
    have f14 : 0 ≤ (σ 0 11).toInt ∧ (σ 0 11).toInt ≤ 60 := IXf hσ xk_0 11
    have e15 := zt_60
    exact zk_some hσ

set_option maxHeartbeats 400000 in
theorem s_X6_text  (σ : zg_S) (hσ : IX σ)  : zk (f_X6_text  σ) (fun r s => IX s) := by
  unfold f_X6_text
  refine zk_call (s_X1_readText (σ 0 10) σ hσ ) (fun r1 σ2 hp1 => ?_)
  have hS2 := hp1
  have f3 : 0 ≤ (σ 0 10).toInt ∧ (σ 0 10).toInt ≤ 96 := IXf hσ xk_0 10
  refine zk_let (fun σ10 q5 => ?_)
  have hS4 : IX σ10 := by rw [q5]; exact IX.up hS2 xk_0 (xconT (zTl zt_0) ⟨by omega, by omega⟩)
  refine zk_ite (fun h6 => ?_) (fun h6 => ?_)
  · have g7 := zeq h6
    have e8 := zt_m1000000005
    refine zk_ite (fun h9 => ?_) (fun h9 => ?_)
    · have g10 := zlt h9
      have f11 : 0 ≤ (σ10 153 4).toInt ∧ (σ10 153 4).toInt ≤ 14 := IXf hS4 xk_153 4
      have e12 := zt_14
      have e13 := zt_153
      have e14 := zt_8
      refine zk_call (s_X0_enact 153 8 σ10 hS4 xk_153 xk_8) (fun r20 σ21 hp15 => ?_)
      have hS16 := hp15
      exact zk_some hS16
    · have g17 := znlt h9
      have f18 : 0 ≤ (σ10 153 4).toInt ∧ (σ10 153 4).toInt ≤ 14 := IXf hS4 xk_153 4
      have e19 := zt_14
      exact zk_some hS4
  · have g20 := zne h6
    have e21 := zt_m1000000005
    exact zk_some hS4

set_option maxHeartbeats 400000 in
theorem s_X6_textTold (a1 : Int32) (a2 : Int32) (σ : zg_S) (hσ : IX σ)  : zk (f_X6_textTold a1 a2 σ) (fun r s => σ = s) := by
  unfold f_X6_textTold
  have e1 := zt_0
  refine zk_call (s_X6_within a1 0 ((σ 153 4) - 1) σ hσ ) (fun r1 σ2 hp2 => ?_)
  obtain ⟨rfl, x3⟩ := hp2
  have f4 : 0 ≤ (σ 153 4).toInt ∧ (σ 153 4).toInt ≤ 14 := IXf hσ xk_153 4
  have e8 := zt_1
  have e9 := zsub (σ 153 4) 1 (by omega) (by omega)
  refine zk_ite (fun h10 => ?_) (fun h10 => ?_)
  · have g11 := zeq h10
    exact zk_some rfl
  · have g12 := zne h10
    obtain ⟨_d5, _d6, _d7⟩ := x3.resolve_left h10
    refine zk_ite (fun h13 => ?_) (fun h13 => ?_)
    · have g14 := zeq h13
      have z15 : zin a1 14 = true := zin_mkT (zTs a1) (by omega) (by omega)
      refine zk_in z15 ?_
      exact zk_some rfl
    · have g16 := zne h13
      refine zk_ite (fun h17 => ?_) (fun h17 => ?_)
      · have g18 := zeq h17
        have z19 : zin a1 14 = true := zin_mkT (zTs a1) (by omega) (by omega)
        refine zk_in z19 ?_
        exact zk_some rfl
      · have g20 := zne h17
        exact zk_some rfl

