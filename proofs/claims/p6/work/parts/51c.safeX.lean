set_option maxHeartbeats 400000 in
theorem s_X5_workOut (q0 : Nat) (a1 : Int32) (a2 : Int32) (a3 : Int32) (σ : zg_S) (hσ : IX σ) (hq0 : XL.2.1 q0 = 5) : zk (f_X5_workOut q0 a1 a2 a3 σ) (fun r s => IX s) := by
  unfold f_X5_workOut
  have e1 := zt_m1
  have e2 := zt_0
  unfold L_X5_workOut_6
  refine zl_II (fun (x4 : Int32) (x5 : Int32) (s6_ : zg_S) => IX s6_ ∧ -1 ≤ x4.toInt ∧ x4.toInt ≤ 95 ∧ 0 ≤ x5.toInt ∧ x5.toInt ≤ 96) (fun (x4 : Int32) (x5 : Int32) (s6_ : zg_S) => (96 - x5.toInt).toNat) ?_ zfu (-1) 0 σ ⟨hσ, (by omega), (by omega), (by omega), (by omega)⟩ (by unfold zfu; omega)
  intro rec6_ x4 x5 s6_ hI3 ih6_
  obtain ⟨hS4, i5, i6, i7, i8⟩ := hI3
  unfold B_X5_workOut_6
  refine zk_ite (fun h9 => ?_) (fun h9 => ?_)
  · have g10 := zle h9
    have f11 : 0 ≤ (s6_ q0 2).toInt ∧ (s6_ q0 2).toInt ≤ 96 := IXf hS4 hq0 2
    refine zk_ite (fun h12 => ?_) (fun h12 => ?_)
    · have g13 := zle h12
      have e14 := zt_0
      have z15 : zin x4 96 = true := zin_mkT (zTs x4) (by omega) (by omega)
      refine zk_in z15 ?_
      exact zk_some hS4
    · have g16 := znle h12
      have e17 := zt_0
      exact zk_some hS4
  · have g18 := znle h9
    have f19 : 0 ≤ (s6_ q0 2).toInt ∧ (s6_ q0 2).toInt ≤ 96 := IXf hS4 hq0 2
    have z20 : zin x5 96 = true := zin_mkT (zTs x5) (by omega) (by omega)
    refine zk_in z20 ?_
    refine zk_let (fun y33 ey21 => ?_)
    refine zk_ite (fun h22 => ?_) (fun h22 => ?_)
    · have g23 := zle h22
      have e24 := zt_m1000
      refine zk_ite (fun h25 => ?_) (fun h25 => ?_)
      · have g26 := zeq h25
        have e27 := zt_m1033
        refine zk_ite (fun h28 => ?_) (fun h28 => ?_)
        · have g29 := zle h28
          have e30 := zt_0
          have z31 : zin x4 96 = true := zin_mkT (zTs x4) (by omega) (by omega)
          refine zk_in z31 ?_
          refine zk_ite (fun h32 => ?_) (fun h32 => ?_)
          · have g33 := zeq h32
            unfold B_X5_workOut_122
            refine zk_in z31 ?_
            refine zk_let (fun σ6 q35 => ?_)
            have hS34 : IX σ6 := by rw [q35]; exact IX.up hS4 (xT2 hq0) trivial
            unfold B_X5_workOut_169
            exact ih6_ x4 (x5 + 1) σ6 ⟨hS34, (by omega), (by omega), (by rw [zTe (zTadd (zTs x5) (zTl zt_1) (by omega) (by omega))]; omega), (by rw [zTe (zTadd (zTs x5) (zTl zt_1) (by omega) (by omega))]; omega)⟩ (by show (96 - (x5 + 1).toInt).toNat < (96 - x5.toInt).toNat; rw [zTe (zTadd (zTs x5) (zTl zt_1) (by omega) (by omega))]; omega)
          · have g36 := zne h32
            unfold B_X5_workOut_122
            refine zk_in z31 ?_
            refine zk_let (fun σ6 q38 => ?_)
            have hS37 : IX σ6 := by rw [q38]; exact IX.up hS4 (xT2 hq0) trivial
            unfold B_X5_workOut_169
            exact ih6_ x4 (x5 + 1) σ6 ⟨hS37, (by omega), (by omega), (by rw [zTe (zTadd (zTs x5) (zTl zt_1) (by omega) (by omega))]; omega), (by rw [zTe (zTadd (zTs x5) (zTl zt_1) (by omega) (by omega))]; omega)⟩ (by show (96 - (x5 + 1).toInt).toNat < (96 - x5.toInt).toNat; rw [zTe (zTadd (zTs x5) (zTl zt_1) (by omega) (by omega))]; omega)
        · have g39 := znle h28
          have e40 := zt_0
          exact zk_some hS4
      · have g41 := zne h25
        have e42 := zt_m1033
        refine zk_ite (fun h43 => ?_) (fun h43 => ?_)
        · have g44 := zle h43
          have e45 := zt_1
          have z46 : zin (x4 + (-1)) 96 = true := zin_mkT (zTadd (zTs x4) (zTl zt_m1) (by omega) (by omega)) (by omega) (by omega)
          refine zk_in z46 ?_
          have z47 : zin ((x4 + (-1)) + 1) 96 = true := zin_mkT (zTadd (zTadd (zTs x4) (zTl zt_m1) (by omega) (by omega)) (zTl zt_1) (by omega) (by omega)) (by omega) (by omega)
          refine zk_in z47 ?_
          refine zk_call (s_X5_joined ((-1000) - y33) (s6_ (q0 + 2) (Int32.toNatClampNeg (x4 + (-1)))) (s6_ (q0 + 2) (Int32.toNatClampNeg ((x4 + (-1)) + 1))) s6_ hS4 ) (fun r52 σ53 hp48 => ?_)
          subst hp48
          refine zk_let (fun σ59 q50 => ?_)
          have hS49 : IX σ59 := by rw [q50]; exact IX.up hS4 (xT2 hq0) trivial
          unfold B_X5_workOut_169
          exact ih6_ (x4 + (-1)) (x5 + 1) σ59 ⟨hS49, (by rw [zTe (zTadd (zTs x4) (zTl zt_m1) (by omega) (by omega))]; omega), (by rw [zTe (zTadd (zTs x4) (zTl zt_m1) (by omega) (by omega))]; omega), (by rw [zTe (zTadd (zTs x5) (zTl zt_1) (by omega) (by omega))]; omega), (by rw [zTe (zTadd (zTs x5) (zTl zt_1) (by omega) (by omega))]; omega)⟩ (by show (96 - (x5 + 1).toInt).toNat < (96 - x5.toInt).toNat; rw [zTe (zTadd (zTs x5) (zTl zt_1) (by omega) (by omega))]; omega)
        · have g51 := znle h43
          have e52 := zt_1
          exact zk_some hS4
    · have g53 := znle h22
      have e54 := zt_m1000
      refine zk_ite (fun h55 => ?_) (fun h55 => ?_)
      · have g56 := zlt h55
        have e57 := zt_95
        refine zk_ite (fun h58 => ?_) (fun h58 => ?_)
        · have g59 := zlt h58
          have e60 := zt_0
          refine zk_ite (fun h61 => ?_) (fun h61 => ?_)
          · have g62 := zeq h61
            have e63 := zt_m1
            unfold B_X5_workOut_82
            have z64 : zin (x4 + 1) 96 = true := zin_mkT (zTadd (zTs x4) (zTl zt_1) (by omega) (by omega)) (by omega) (by omega)
            refine zk_in z64 ?_
            refine zk_let (fun σ15 q66 => ?_)
            have hS65 : IX σ15 := by rw [q66]; exact IX.up hS4 (xT2 hq0) trivial
            unfold B_X5_workOut_169
            exact ih6_ (x4 + 1) (x5 + 1) σ15 ⟨hS65, (by rw [zTe (zTadd (zTs x4) (zTl zt_1) (by omega) (by omega))]; omega), (by rw [zTe (zTadd (zTs x4) (zTl zt_1) (by omega) (by omega))]; omega), (by rw [zTe (zTadd (zTs x5) (zTl zt_1) (by omega) (by omega))]; omega), (by rw [zTe (zTadd (zTs x5) (zTl zt_1) (by omega) (by omega))]; omega)⟩ (by show (96 - (x5 + 1).toInt).toNat < (96 - x5.toInt).toNat; rw [zTe (zTadd (zTs x5) (zTl zt_1) (by omega) (by omega))]; omega)
          · have g67 := zne h61
            have e68 := zt_m1
            refine zk_ite (fun h69 => ?_) (fun h69 => ?_)
            · have g70 := zeq h69
              have e71 := zt_m2
              unfold B_X5_workOut_82
              have z72 : zin (x4 + 1) 96 = true := zin_mkT (zTadd (zTs x4) (zTl zt_1) (by omega) (by omega)) (by omega) (by omega)
              refine zk_in z72 ?_
              refine zk_let (fun σ15 q74 => ?_)
              have hS73 : IX σ15 := by rw [q74]; exact IX.up hS4 (xT2 hq0) trivial
              unfold B_X5_workOut_169
              exact ih6_ (x4 + 1) (x5 + 1) σ15 ⟨hS73, (by rw [zTe (zTadd (zTs x4) (zTl zt_1) (by omega) (by omega))]; omega), (by rw [zTe (zTadd (zTs x4) (zTl zt_1) (by omega) (by omega))]; omega), (by rw [zTe (zTadd (zTs x5) (zTl zt_1) (by omega) (by omega))]; omega), (by rw [zTe (zTadd (zTs x5) (zTl zt_1) (by omega) (by omega))]; omega)⟩ (by show (96 - (x5 + 1).toInt).toNat < (96 - x5.toInt).toNat; rw [zTe (zTadd (zTs x5) (zTl zt_1) (by omega) (by omega))]; omega)
            · have g75 := zne h69
              have e76 := zt_m2
              unfold B_X5_workOut_82
              have z77 : zin (x4 + 1) 96 = true := zin_mkT (zTadd (zTs x4) (zTl zt_1) (by omega) (by omega)) (by omega) (by omega)
              refine zk_in z77 ?_
              refine zk_let (fun σ15 q79 => ?_)
              have hS78 : IX σ15 := by rw [q79]; exact IX.up hS4 (xT2 hq0) trivial
              unfold B_X5_workOut_169
              exact ih6_ (x4 + 1) (x5 + 1) σ15 ⟨hS78, (by rw [zTe (zTadd (zTs x4) (zTl zt_1) (by omega) (by omega))]; omega), (by rw [zTe (zTadd (zTs x4) (zTl zt_1) (by omega) (by omega))]; omega), (by rw [zTe (zTadd (zTs x5) (zTl zt_1) (by omega) (by omega))]; omega), (by rw [zTe (zTadd (zTs x5) (zTl zt_1) (by omega) (by omega))]; omega)⟩ (by show (96 - (x5 + 1).toInt).toNat < (96 - x5.toInt).toNat; rw [zTe (zTadd (zTs x5) (zTl zt_1) (by omega) (by omega))]; omega)
        · have g80 := znlt h58
          have e81 := zt_0
          unfold B_X5_workOut_82
          have z82 : zin (x4 + 1) 96 = true := zin_mkT (zTadd (zTs x4) (zTl zt_1) (by omega) (by omega)) (by omega) (by omega)
          refine zk_in z82 ?_
          refine zk_let (fun σ15 q84 => ?_)
          have hS83 : IX σ15 := by rw [q84]; exact IX.up hS4 (xT2 hq0) trivial
          unfold B_X5_workOut_169
          exact ih6_ (x4 + 1) (x5 + 1) σ15 ⟨hS83, (by rw [zTe (zTadd (zTs x4) (zTl zt_1) (by omega) (by omega))]; omega), (by rw [zTe (zTadd (zTs x4) (zTl zt_1) (by omega) (by omega))]; omega), (by rw [zTe (zTadd (zTs x5) (zTl zt_1) (by omega) (by omega))]; omega), (by rw [zTe (zTadd (zTs x5) (zTl zt_1) (by omega) (by omega))]; omega)⟩ (by show (96 - (x5 + 1).toInt).toNat < (96 - x5.toInt).toNat; rw [zTe (zTadd (zTs x5) (zTl zt_1) (by omega) (by omega))]; omega)
      · have g85 := znlt h55
        have e86 := zt_95
        exact zk_some hS4

set_option maxHeartbeats 400000 in
theorem s_X0_plainLoss (q0 : Nat) (q1 : Nat) (σ : zg_S) (hσ : IX σ) (hq0 : XL.2.1 q0 = 0) (hq1 : XL.2.1 q1 = 4) : zk (f_X0_plainLoss q0 q1 σ) (fun r s => IX s) := by
  unfold f_X0_plainLoss
  have e1 := zt_0
  have e2 := zt_13
  refine zk_call (s_X6_within (σ (q0 + 2) 0) 0 13 σ hσ ) (fun r3 σ4 hp3 => ?_)
  obtain ⟨rfl, x4⟩ := hp3
  refine zk_ite (fun h8 => ?_) (fun h8 => ?_)
  · have g9 := zeq h8
    refine zk_call (s_X0_heat q0 σ hσ hq0) (fun r37 σ38 hp10 => ?_)
    subst hp10
    exact zk_some hσ
  · have g11 := zne h8
    obtain ⟨_d5, _d6, _d7⟩ := x4.resolve_left h8
    have z12 : zin (σ (q0 + 2) 0) 14 = true := zin_mkT (zTs (σ (q0 + 2) 0)) (by omega) (by omega)
    refine zk_in z12 ?_
    refine zk_call (s_X0_heat q0 σ hσ hq0) (fun r15 σ16 hp13 => ?_)
    subst hp13
    refine zk_call (s_X5_workOut (11 + 3 * (Int32.toNatClampNeg (σ (q0 + 2) 0))) r15 (σ q1 2) (σ q1 3) σ hσ (xT (zIn z12).2)) (fun r22 σ23 hp14 => ?_)
    have hS15 := hp14
    refine zk_call (s_X6_held r22 0 (σ23 q1 2) σ23 hS15 ) (fun r29 σ30 hp16 => ?_)
    obtain ⟨rfl, x17⟩ := hp16
    exact zk_some hS15

set_option maxHeartbeats 400000 in
theorem s_X4_sunLoss (q0 : Nat) (a1 : Int32) (σ : zg_S) (hσ : IX σ) (hq0 : XL.2.1 q0 = 4) : zk (f_X4_sunLoss q0 a1 σ) (fun r s => σ = s) := by
  unfold f_X4_sunLoss
  refine zk_ite (fun h1 => ?_) (fun h1 => ?_)
  · have g2 := zeq h1
    have e3 := zt_1
    exact zk_some rfl
  · have g4 := zne h1
    have e5 := zt_1
    refine zk_ite (fun h6 => ?_) (fun h6 => ?_)
    · have g7 := zeq h6
      have e8 := zt_2
      exact zk_some rfl
    · have g9 := zne h6
      have e10 := zt_2
      refine zk_ite (fun h11 => ?_) (fun h11 => ?_)
      · have g12 := zeq h11
        have e13 := zt_3
        exact zk_some rfl
      · have g14 := zne h11
        have e15 := zt_3
        refine zk_ite (fun h16 => ?_) (fun h16 => ?_)
        · have g17 := zeq h16
          have e18 := zt_4
          exact zk_some rfl
        · have g19 := zne h16
          have e20 := zt_4
          refine zk_ite (fun h21 => ?_) (fun h21 => ?_)
          · have g22 := zeq h21
            have e23 := zt_5
            exact zk_some rfl
          · have g24 := zne h21
            have e25 := zt_5
            exact zk_some rfl

set_option maxHeartbeats 400000 in
theorem s_X0_lossOf (q0 : Nat) (q1 : Nat) (σ : zg_S) (hσ : IX σ) (hq0 : XL.2.1 q0 = 0) (hq1 : XL.2.1 q1 = 4) : zk (f_X0_lossOf q0 q1 σ) (fun r s => IX s) := by
  unfold f_X0_lossOf
  refine zk_ite (fun h1 => ?_) (fun h1 => ?_)
  · have g2 := zeq h1
    have e3 := zt_0
    exact zk_some hσ
  · have g4 := zne h1
    have e5 := zt_0
    refine zk_call (s_X0_shades q0 (σ q1 1) σ hσ hq0) (fun r8 σ9 hp6 => ?_)
    obtain ⟨rfl, x7⟩ := hp6
    refine zk_ite (fun h8 => ?_) (fun h8 => ?_)
    · have g9 := zeq h8
      refine zk_call (s_X0_plainLoss q0 q1 σ hσ hq0 hq1) (fun r17 σ18 hp10 => ?_)
      have hS11 := hp10
      refine zk_call (s_X4_sunLoss q1 r17 σ18 hS11 hq1) (fun r24 σ25 hp12 => ?_)
      subst hp12
      unfold B_X0_lossOf_36
      refine zk_let (fun y3 ey13 => ?_)
      have g14 := zmin ey13
      exact zk_some hS11
    · have g15 := zne h8
      refine zk_call (s_X4_shadeLoss q1 σ hσ hq1) (fun r32 σ33 hp16 => ?_)
      subst hp16
      unfold B_X0_lossOf_36
      refine zk_let (fun y3 ey17 => ?_)
      have g18 := zmin ey17
      exact zk_some hσ

