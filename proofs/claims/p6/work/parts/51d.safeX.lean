set_option maxHeartbeats 400000 in
theorem s_X0_haulingByLoss (q0 : Nat) (σ : zg_S) (hσ : IX σ) (hq0 : XL.2.1 q0 = 0) : zk (f_X0_haulingByLoss q0 σ) (fun r s => IX s) := by
  unfold f_X0_haulingByLoss
  have e1 := zt_0
  unfold L_X0_haulingByLoss_6
  refine zl_III (fun (x1 : Int32) (x2 : Int32) (x3 : Int32) (s6_ : zg_S) => IX s6_ ∧ 0 ≤ x3.toInt ∧ x3.toInt ≤ 9) (fun (x1 : Int32) (x2 : Int32) (x3 : Int32) (s6_ : zg_S) => (9 - x3.toInt).toNat) ?_ zfu 0 0 0 σ ⟨hσ, (by omega), (by omega)⟩ (by unfold zfu; omega)
  intro rec6_ x1 x2 x3 s6_ hI2 ih6_
  obtain ⟨hS3, i4, i5⟩ := hI2
  unfold B_X0_haulingByLoss_6
  refine zk_ite (fun h6 => ?_) (fun h6 => ?_)
  · have g7 := zle h6
    have f8 : 0 ≤ (s6_ q0 3).toInt ∧ (s6_ q0 3).toInt ≤ 9 := IXf hS3 hq0 3
    exact zk_some hS3
  · have g9 := znle h6
    have f10 : 0 ≤ (s6_ q0 3).toInt ∧ (s6_ q0 3).toInt ≤ 9 := IXf hS3 hq0 3
    have z11 : zin x3 9 = true := zin_mkT (zTs x3) (by omega) (by omega)
    refine zk_in z11 ?_
    refine zk_call (s_X0_shades q0 (s6_ ((q0 + 1) + 2 + (Int32.toNatClampNeg x3)) 1) s6_ hS3 hq0) (fun r30 σ31 hp12 => ?_)
    obtain ⟨rfl, x13⟩ := hp12
    refine zk_ite (fun h14 => ?_) (fun h14 => ?_)
    · have g15 := zeq h14
      have e16 := zt_0
      refine zk_call (s_X0_lossOf q0 ((q0 + 1) + 2 + (Int32.toNatClampNeg x3)) s6_ hS3 hq0 (xS (xB1 hq0) (zIn z11).2)) (fun r39 σ40 hp17 => ?_)
      have hS18 := hp17
      unfold B_X0_haulingByLoss_44
      refine zk_ite (fun h19 => ?_) (fun h19 => ?_)
      · have g20 := zle h19
        unfold B_X0_haulingByLoss_78
        exact ih6_ x1 x2 (x3 + 1) σ40 ⟨hS18, (by rw [zTe (zTadd (zTs x3) (zTl zt_1) (by omega) (by omega))]; omega), (by rw [zTe (zTadd (zTs x3) (zTl zt_1) (by omega) (by omega))]; omega)⟩ (by show (9 - (x3 + 1).toInt).toNat < (9 - x3.toInt).toNat; rw [zTe (zTadd (zTs x3) (zTl zt_1) (by omega) (by omega))]; omega)
      · have g21 := znle h19
        refine zk_call (s_X0_slant q0 σ40 hS18 hq0) (fun r12 σ13 hp22 => ?_)
        subst hp22
        refine zk_ite (fun h23 => ?_) (fun h23 => ?_)
        · have g24 := zle h23
          unfold B_X0_haulingByLoss_77
          unfold B_X0_haulingByLoss_78
          exact ih6_ 2 r39 (x3 + 1) σ40 ⟨hS18, (by rw [zTe (zTadd (zTs x3) (zTl zt_1) (by omega) (by omega))]; omega), (by rw [zTe (zTadd (zTs x3) (zTl zt_1) (by omega) (by omega))]; omega)⟩ (by show (9 - (x3 + 1).toInt).toNat < (9 - x3.toInt).toNat; rw [zTe (zTadd (zTs x3) (zTl zt_1) (by omega) (by omega))]; omega)
        · have g25 := znle h23
          unfold B_X0_haulingByLoss_77
          unfold B_X0_haulingByLoss_78
          exact ih6_ 1 r39 (x3 + 1) σ40 ⟨hS18, (by rw [zTe (zTadd (zTs x3) (zTl zt_1) (by omega) (by omega))]; omega), (by rw [zTe (zTadd (zTs x3) (zTl zt_1) (by omega) (by omega))]; omega)⟩ (by show (9 - (x3 + 1).toInt).toNat < (9 - x3.toInt).toNat; rw [zTe (zTadd (zTs x3) (zTl zt_1) (by omega) (by omega))]; omega)
    · have g26 := zne h14
      have e27 := zt_0
      unfold B_X0_haulingByLoss_44
      refine zk_ite (fun h28 => ?_) (fun h28 => ?_)
      · have g29 := zle h28
        unfold B_X0_haulingByLoss_78
        exact ih6_ x1 x2 (x3 + 1) s6_ ⟨hS3, (by rw [zTe (zTadd (zTs x3) (zTl zt_1) (by omega) (by omega))]; omega), (by rw [zTe (zTadd (zTs x3) (zTl zt_1) (by omega) (by omega))]; omega)⟩ (by show (9 - (x3 + 1).toInt).toNat < (9 - x3.toInt).toNat; rw [zTe (zTadd (zTs x3) (zTl zt_1) (by omega) (by omega))]; omega)
      · have g30 := znle h28
        refine zk_call (s_X0_slant q0 s6_ hS3 hq0) (fun r12 σ13 hp31 => ?_)
        subst hp31
        refine zk_ite (fun h32 => ?_) (fun h32 => ?_)
        · have g33 := zle h32
          unfold B_X0_haulingByLoss_77
          unfold B_X0_haulingByLoss_78
          exact ih6_ 2 0 (x3 + 1) s6_ ⟨hS3, (by rw [zTe (zTadd (zTs x3) (zTl zt_1) (by omega) (by omega))]; omega), (by rw [zTe (zTadd (zTs x3) (zTl zt_1) (by omega) (by omega))]; omega)⟩ (by show (9 - (x3 + 1).toInt).toNat < (9 - x3.toInt).toNat; rw [zTe (zTadd (zTs x3) (zTl zt_1) (by omega) (by omega))]; omega)
        · have g34 := znle h32
          unfold B_X0_haulingByLoss_77
          unfold B_X0_haulingByLoss_78
          exact ih6_ 1 0 (x3 + 1) s6_ ⟨hS3, (by rw [zTe (zTadd (zTs x3) (zTl zt_1) (by omega) (by omega))]; omega), (by rw [zTe (zTadd (zTs x3) (zTl zt_1) (by omega) (by omega))]; omega)⟩ (by show (9 - (x3 + 1).toInt).toNat < (9 - x3.toInt).toNat; rw [zTe (zTadd (zTs x3) (zTl zt_1) (by omega) (by omega))]; omega)

set_option maxHeartbeats 400000 in
theorem s_X0_payUnder (q0 : Nat) (a1 : Int32) (σ : zg_S) (hσ : IX σ) (hq0 : XL.2.1 q0 = 0) : zk (f_X0_payUnder q0 a1 σ) (fun r s => σ = s) := by
  unfold f_X0_payUnder
  have e1 := zt_0
  unfold L_X0_payUnder_4
  refine zl_II (fun (x2 : Int32) (x3 : Int32) (s4_ : zg_S) => σ = s4_ ∧ 0 ≤ x3.toInt ∧ x3.toInt ≤ 9) (fun (x2 : Int32) (x3 : Int32) (s4_ : zg_S) => (9 - x3.toInt).toNat) ?_ zfu 0 0 σ ⟨rfl, (by omega), (by omega)⟩ (by unfold zfu; omega)
  intro rec4_ x2 x3 s4_ hI2 ih4_
  obtain ⟨rfl, i3, i4⟩ := hI2
  unfold B_X0_payUnder_4
  refine zk_ite (fun h5 => ?_) (fun h5 => ?_)
  · have g6 := zle h5
    have f7 : 0 ≤ (σ q0 3).toInt ∧ (σ q0 3).toInt ≤ 9 := IXf hσ hq0 3
    exact zk_some rfl
  · have g8 := znle h5
    have f9 : 0 ≤ (σ q0 3).toInt ∧ (σ q0 3).toInt ≤ 9 := IXf hσ hq0 3
    have z10 : zin x3 9 = true := zin_mkT (zTs x3) (by omega) (by omega)
    refine zk_in z10 ?_
    refine zk_call (s_X0_wouldShade q0 a1 (σ ((q0 + 1) + 2 + (Int32.toNatClampNeg x3)) 1) σ hσ hq0) (fun r9 σ10 hp11 => ?_)
    obtain ⟨rfl, x12⟩ := hp11
    refine zk_ite (fun h13 => ?_) (fun h13 => ?_)
    · have g14 := zeq h13
      have e15 := zt_0
      unfold B_X0_payUnder_41
      exact ih4_ x2 (x3 + 1) σ ⟨rfl, (by rw [zTe (zTadd (zTs x3) (zTl zt_1) (by omega) (by omega))]; omega), (by rw [zTe (zTadd (zTs x3) (zTl zt_1) (by omega) (by omega))]; omega)⟩ (by show (9 - (x3 + 1).toInt).toNat < (9 - x3.toInt).toNat; rw [zTe (zTadd (zTs x3) (zTl zt_1) (by omega) (by omega))]; omega)
    · have g16 := zne h13
      have e17 := zt_0
      refine zk_let (fun y19 ey18 => ?_)
      unfold B_X0_payUnder_41
      exact ih4_ y19 (x3 + 1) σ ⟨rfl, (by rw [zTe (zTadd (zTs x3) (zTl zt_1) (by omega) (by omega))]; omega), (by rw [zTe (zTadd (zTs x3) (zTl zt_1) (by omega) (by omega))]; omega)⟩ (by show (9 - (x3 + 1).toInt).toNat < (9 - x3.toInt).toNat; rw [zTe (zTadd (zTs x3) (zTl zt_1) (by omega) (by omega))]; omega)

set_option maxHeartbeats 400000 in
theorem s_X0_haulingByPay (q0 : Nat) (σ : zg_S) (hσ : IX σ) (hq0 : XL.2.1 q0 = 0) : zk (f_X0_haulingByPay q0 σ) (fun r s => σ = s) := by
  unfold f_X0_haulingByPay
  have e1 := zt_0
  unfold L_X0_haulingByPay_6
  refine zl_III (fun (x1 : Int32) (x2 : Int32) (x3 : Int32) (s6_ : zg_S) => σ = s6_ ∧ 0 ≤ x3.toInt ∧ x3.toInt ≤ 3) (fun (x1 : Int32) (x2 : Int32) (x3 : Int32) (s6_ : zg_S) => (3 - x3.toInt).toNat) ?_ zfu 0 (-1) 0 σ ⟨rfl, (by omega), (by omega)⟩ (by unfold zfu; omega)
  intro rec6_ x1 x2 x3 s6_ hI2 ih6_
  obtain ⟨rfl, i3, i4⟩ := hI2
  unfold B_X0_haulingByPay_6
  refine zk_ite (fun h5 => ?_) (fun h5 => ?_)
  · have g6 := zle h5
    have e7 := zt_3
    exact zk_some rfl
  · have g8 := znle h5
    have e9 := zt_3
    refine zk_call (s_X0_hauledTo q0 x3 σ hσ hq0) (fun r6 σ7 hp10 => ?_)
    subst hp10
    refine zk_call (s_X0_payUnder q0 r6 σ hσ hq0) (fun r13 σ14 hp11 => ?_)
    subst hp11
    refine zk_ite (fun h12 => ?_) (fun h12 => ?_)
    · have g13 := zle h12
      unfold B_X0_haulingByPay_33
      exact ih6_ x1 x2 (x3 + 1) σ ⟨rfl, (by rw [zTe (zTadd (zTs x3) (zTl zt_1) (by omega) (by omega))]; omega), (by rw [zTe (zTadd (zTs x3) (zTl zt_1) (by omega) (by omega))]; omega)⟩ (by show (3 - (x3 + 1).toInt).toNat < (3 - x3.toInt).toNat; rw [zTe (zTadd (zTs x3) (zTl zt_1) (by omega) (by omega))]; omega)
    · have g14 := znle h12
      unfold B_X0_haulingByPay_33
      exact ih6_ x3 r13 (x3 + 1) σ ⟨rfl, (by rw [zTe (zTadd (zTs x3) (zTl zt_1) (by omega) (by omega))]; omega), (by rw [zTe (zTadd (zTs x3) (zTl zt_1) (by omega) (by omega))]; omega)⟩ (by show (3 - (x3 + 1).toInt).toNat < (3 - x3.toInt).toNat; rw [zTe (zTadd (zTs x3) (zTl zt_1) (by omega) (by omega))]; omega)

set_option maxHeartbeats 400000 in
theorem s_X0_hauling (q0 : Nat) (σ : zg_S) (hσ : IX σ) (hq0 : XL.2.1 q0 = 0) : zk (f_X0_hauling q0 σ) (fun r s => IX s) := by
  unfold f_X0_hauling
  refine zk_ite (fun h1 => ?_) (fun h1 => ?_)
  · have g2 := zeq h1
    have e3 := zt_1
    refine zk_call (s_X0_haulingByLoss q0 σ hσ hq0) (fun r3 σ4 hp4 => ?_)
    have hS5 := hp4
    exact zk_some hS5
  · have g6 := zne h1
    have e7 := zt_1
    refine zk_ite (fun h8 => ?_) (fun h8 => ?_)
    · have g9 := zeq h8
      have e10 := zt_2
      refine zk_call (s_X0_haulingByPay q0 σ hσ hq0) (fun r13 σ14 hp11 => ?_)
      subst hp11
      exact zk_some hσ
    · have g12 := zne h8
      have e13 := zt_2
      exact zk_some hσ

set_option maxHeartbeats 400000 in
theorem s_X0_open (q0 : Nat) (a1 : Int32) (a2 : Int32) (a3 : Int32) (σ : zg_S) (hσ : IX σ) (hq0 : XL.2.1 q0 = 0) : zk (f_X0_open q0 a1 a2 a3 σ) (fun r s => IX s) := by
  unfold f_X0_open
  refine zk_ite (fun h1 => ?_) (fun h1 => ?_)
  · have g2 := zlt h1
    have f3 : 0 ≤ (σ q0 3).toInt ∧ (σ q0 3).toInt ≤ 9 := IXf hσ hq0 3
    have e4 := zt_9
    have z5 : zin (σ q0 3) 9 = true := zin_mkT (zTs (σ q0 3)) (by omega) (by omega)
    refine zk_in z5 ?_
    refine zk_let (fun σ8 q7 => ?_)
    have hS6 : IX σ8 := by rw [q7]; exact IX.up hσ (xS (xB1 hq0) (zIn z5).2) trivial
    have kp8 : σ8 q0 3 = σ q0 3 := by rw [q7]; exact zkeep (xS (xB1 hq0) (zIn z5).2) hq0 rfl
    refine zk_let (fun σ14 q10 => ?_)
    have hS9 : IX σ14 := by rw [q10]; exact IX.up hS6 (xS (xB1 hq0) (zIn z5).2) trivial
    have kp11 : σ14 q0 3 = σ8 q0 3 := by rw [q10]; exact zkeep (xS (xB1 hq0) (zIn z5).2) hq0 rfl
    refine zk_let (fun σ20 q13 => ?_)
    have hS12 : IX σ20 := by rw [q13]; exact IX.up hS9 (xS (xB1 hq0) (zIn z5).2) trivial
    have kp14 : σ20 q0 3 = σ14 q0 3 := by rw [q13]; exact zkeep (xS (xB1 hq0) (zIn z5).2) hq0 rfl
    refine zk_let (fun σ26 q16 => ?_)
    have hS15 : IX σ26 := by rw [q16]; exact IX.up hS12 (xS (xB1 hq0) (zIn z5).2) trivial
    have kp17 : σ26 q0 3 = σ20 q0 3 := by rw [q16]; exact zkeep (xS (xB1 hq0) (zIn z5).2) hq0 rfl
    refine zk_let (fun σ32 q19 => ?_)
    have g20 := congrArg Int32.toInt (kp17.trans (kp14.trans (kp11.trans (kp8.trans rfl))))
    have f21 : 0 ≤ (σ26 q0 3).toInt ∧ (σ26 q0 3).toInt ≤ 9 := IXf hS15 hq0 3
    have hS18 : IX σ32 := by rw [q19]; exact IX.up hS15 hq0 (xconT (zTadd (zTs (σ26 q0 3)) (zTl zt_1) (by omega) (by omega)) ⟨by omega, by omega⟩)
    exact zk_some hS18
  · have g22 := znlt h1
    have f23 : 0 ≤ (σ q0 3).toInt ∧ (σ q0 3).toInt ≤ 9 := IXf hσ hq0 3
    have e24 := zt_9
    exact zk_some hσ

set_option maxHeartbeats 400000 in
theorem s_X0_passHour (q0 : Nat) (a1 : Int32) (σ : zg_S) (hσ : IX σ) (hq0 : XL.2.1 q0 = 0) : zk (f_X0_passHour q0 a1 σ) (fun r s => IX s) := by
  unfold f_X0_passHour
  refine zk_call (s_X0_hauledTo q0 a1 σ hσ hq0) (fun r67 σ68 hp1 => ?_)
  subst hp1
  refine zk_let (fun σ74 q3 => ?_)
  have hS2 : IX σ74 := by rw [q3]; exact IX.up hσ hq0 trivial
  have e4 := zt_0
  unfold L_X0_passHour_11
  refine zl_I (fun (x2 : Int32) (s11_ : zg_S) => IX s11_ ∧ 0 ≤ x2.toInt ∧ x2.toInt ≤ 9) (fun (x2 : Int32) (s11_ : zg_S) => (9 - x2.toInt).toNat) ?_ zfu 0 σ74 ⟨hS2, (by omega), (by omega)⟩ (by unfold zfu; omega)
  intro rec11_ x2 s11_ hI5 ih11_
  obtain ⟨hS6, i7, i8⟩ := hI5
  unfold B_X0_passHour_11
  refine zk_ite (fun h9 => ?_) (fun h9 => ?_)
  · have g10 := zle h9
    have f11 : 0 ≤ (s11_ q0 3).toInt ∧ (s11_ q0 3).toInt ≤ 9 := IXf hS6 hq0 3
    refine zk_call (s_X0_blow q0 s11_ hS6 hq0) (fun r5 σ6 hp12 => ?_)
    have hS13 := hp12
    refine zk_let (fun σ12 q15 => ?_)
    have hS14 : IX σ12 := by rw [q15]; exact IX.up hS13 hq0 trivial
    exact zk_some hS14
  · have g16 := znle h9
    have f17 : 0 ≤ (s11_ q0 3).toInt ∧ (s11_ q0 3).toInt ≤ 9 := IXf hS6 hq0 3
    have z18 : zin x2 9 = true := zin_mkT (zTs x2) (by omega) (by omega)
    refine zk_in z18 ?_
    refine zk_call (s_X0_lossOf q0 ((q0 + 1) + 2 + (Int32.toNatClampNeg x2)) s11_ hS6 hq0 (xS (xB1 hq0) (zIn z18).2)) (fun r24 σ25 hp19 => ?_)
    have hS20 := hp19
    refine zk_let (fun y33 ey21 => ?_)
    refine zk_let (fun σ36 q23 => ?_)
    have hS22 : IX σ36 := by rw [q23]; exact IX.up hS20 (xS (xB1 hq0) (zIn z18).2) trivial
    refine zk_let (fun σ42 q25 => ?_)
    have hS24 : IX σ42 := by rw [q25]; exact IX.up hS22 hq0 trivial
    refine zk_call (s_X0_shades q0 (σ42 ((q0 + 1) + 2 + (Int32.toNatClampNeg x2)) 1) σ42 hS24 hq0) (fun r48 σ49 hp26 => ?_)
    obtain ⟨rfl, x27⟩ := hp26
    refine zk_ite (fun h28 => ?_) (fun h28 => ?_)
    · have g29 := zeq h28
      have e30 := zt_0
      unfold B_X0_passHour_79
      exact ih11_ (x2 + 1) σ42 ⟨hS24, (by rw [zTe (zTadd (zTs x2) (zTl zt_1) (by omega) (by omega))]; omega), (by rw [zTe (zTadd (zTs x2) (zTl zt_1) (by omega) (by omega))]; omega)⟩ (by show (9 - (x2 + 1).toInt).toNat < (9 - x2.toInt).toNat; rw [zTe (zTadd (zTs x2) (zTl zt_1) (by omega) (by omega))]; omega)
    · have g31 := zne h28
      have e32 := zt_0
      refine zk_let (fun y58 ey33 => ?_)
      refine zk_let (fun σ61 q35 => ?_)
      have hS34 : IX σ61 := by rw [q35]; exact IX.up hS24 hq0 trivial
      unfold B_X0_passHour_79
      exact ih11_ (x2 + 1) σ61 ⟨hS34, (by rw [zTe (zTadd (zTs x2) (zTl zt_1) (by omega) (by omega))]; omega), (by rw [zTe (zTadd (zTs x2) (zTl zt_1) (by omega) (by omega))]; omega)⟩ (by show (9 - (x2 + 1).toInt).toNat < (9 - x2.toInt).toNat; rw [zTe (zTadd (zTs x2) (zTl zt_1) (by omega) (by omega))]; omega)

set_option maxHeartbeats 400000 in
theorem s_X0_shadedSet (q0 : Nat) (σ : zg_S) (hσ : IX σ) (hq0 : XL.2.1 q0 = 0) : zk (f_X0_shadedSet q0 σ) (fun r s => σ = s) := by
  unfold f_X0_shadedSet
  have e1 := zt_0
  unfold L_X0_shadedSet_4
  refine zl_II (fun (x1 : Int32) (x2 : Int32) (s4_ : zg_S) => σ = s4_ ∧ 0 ≤ x2.toInt ∧ x2.toInt ≤ 9) (fun (x1 : Int32) (x2 : Int32) (s4_ : zg_S) => (9 - x2.toInt).toNat) ?_ zfu 0 0 σ ⟨rfl, (by omega), (by omega)⟩ (by unfold zfu; omega)
  intro rec4_ x1 x2 s4_ hI2 ih4_
  obtain ⟨rfl, i3, i4⟩ := hI2
  unfold B_X0_shadedSet_4
  refine zk_ite (fun h5 => ?_) (fun h5 => ?_)
  · have g6 := zle h5
    have f7 : 0 ≤ (σ q0 3).toInt ∧ (σ q0 3).toInt ≤ 9 := IXf hσ hq0 3
    exact zk_some rfl
  · have g8 := znle h5
    have f9 : 0 ≤ (σ q0 3).toInt ∧ (σ q0 3).toInt ≤ 9 := IXf hσ hq0 3
    have z10 : zin x2 9 = true := zin_mkT (zTs x2) (by omega) (by omega)
    refine zk_in z10 ?_
    refine zk_call (s_X0_shades q0 (σ ((q0 + 1) + 2 + (Int32.toNatClampNeg x2)) 1) σ hσ hq0) (fun r9 σ10 hp11 => ?_)
    obtain ⟨rfl, x12⟩ := hp11
    refine zk_ite (fun h13 => ?_) (fun h13 => ?_)
    · have g14 := zeq h13
      have e15 := zt_0
      unfold B_X0_shadedSet_34
      exact ih4_ x1 (x2 + 1) σ ⟨rfl, (by rw [zTe (zTadd (zTs x2) (zTl zt_1) (by omega) (by omega))]; omega), (by rw [zTe (zTadd (zTs x2) (zTl zt_1) (by omega) (by omega))]; omega)⟩ (by show (9 - (x2 + 1).toInt).toNat < (9 - x2.toInt).toNat; rw [zTe (zTadd (zTs x2) (zTl zt_1) (by omega) (by omega))]; omega)
    · have g16 := zne h13
      have e17 := zt_0
      unfold B_X0_shadedSet_34
      exact ih4_ (x1 ||| (1 <<< (x2 &&& 31))) (x2 + 1) σ ⟨rfl, (by rw [zTe (zTadd (zTs x2) (zTl zt_1) (by omega) (by omega))]; omega), (by rw [zTe (zTadd (zTs x2) (zTl zt_1) (by omega) (by omega))]; omega)⟩ (by show (9 - (x2 + 1).toInt).toNat < (9 - x2.toInt).toNat; rw [zTe (zTadd (zTs x2) (zTl zt_1) (by omega) (by omega))]; omega)

