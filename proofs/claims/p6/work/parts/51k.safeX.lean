set_option maxHeartbeats 400000 in
theorem s_X6_mark (a1 : Int32) (a2 : Int32) (a3 : Int32) (σ : zg_S) (hσ : IX σ)  : zk (f_X6_mark a1 a2 a3 σ) (fun r s => IX s) := by
  unfold f_X6_mark
  refine zk_call (s_X6_isSheet a1 σ hσ ) (fun r10 σ11 hp1 => ?_)
  obtain ⟨rfl, x2⟩ := hp1
  refine zk_ite (fun h6 => ?_) (fun h6 => ?_)
  · have g7 := zeq h6
    have e8 := zt_0
    exact zk_some hσ
  · have g9 := zne h6
    have e10 := zt_0
    obtain ⟨_d3, _d4, _d5⟩ := x2.resolve_left h6
    have z11 : zin a1 4 = true := zin_mkT (zTs a1) (by omega) (by omega)
    refine zk_in z11 ?_
    refine zk_call (s_X2_isMissing (53 + 2 * (Int32.toNatClampNeg a1)) σ hσ (xH (zIn z11).2)) (fun r24 σ25 hp12 => ?_)
    obtain ⟨rfl, x13⟩ := hp12
    refine zk_ite (fun h14 => ?_) (fun h14 => ?_)
    · have g15 := zeq h14
      refine zk_call (s_X2_hasPlace (53 + 2 * (Int32.toNatClampNeg a1)) a2 σ hσ (xH (zIn z11).2)) (fun r33 σ34 hp16 => ?_)
      obtain ⟨rfl, x17⟩ := hp16
      have f18 : 0 ≤ (σ (53 + 2 * (Int32.toNatClampNeg a1)) 1).toInt ∧ (σ (53 + 2 * (Int32.toNatClampNeg a1)) 1).toInt ≤ 24 := IXf hσ (xH (zIn z11).2) 1
      refine zk_ite (fun h22 => ?_) (fun h22 => ?_)
      · have g23 := zeq h22
        exact zk_some hσ
      · have g24 := zne h22
        obtain ⟨_d19, _d20, _d21⟩ := x17.resolve_left h22
        refine zk_ite (fun h25 => ?_) (fun h25 => ?_)
        · have g26 := zeq h25
          refine zk_ite (fun h27 => ?_) (fun h27 => ?_)
          · have g28 := zeq h27
            have e29 := zt_m1000000005
            exact zk_some hσ
          · have g30 := zne h27
            have e31 := zt_m1000000005
            have z32 : zin a2 24 = true := zin_mkT (zTs a2) (by omega) (by omega)
            refine zk_in z32 ?_
            refine zk_let (fun σ63 q34 => ?_)
            have hS33 : IX σ63 := by rw [q34]; exact IX.up hσ (xH1 (xH (zIn z11).2)) trivial
            exact zk_some hS33
        · have g35 := zne h25
          refine zk_ite (fun h36 => ?_) (fun h36 => ?_)
          · have g37 := zeq h36
            have e38 := zt_m1000000005
            unfold B_X6_mark_92
            have z39 : zin a2 24 = true := zin_mkT (zTs a2) (by omega) (by omega)
            refine zk_in z39 ?_
            refine zk_let (fun σ4 q41 => ?_)
            have hS40 : IX σ4 := by rw [q41]; exact IX.up hσ (xH1 (xH (zIn z11).2)) trivial
            exact zk_some hS40
          · have g42 := zne h36
            have e43 := zt_m1000000005
            have e44 := zt_m99999
            have e45 := zt_99999
            refine zk_call (s_X6_within a3 (-99999) 99999 σ hσ ) (fun r47 σ48 hp46 => ?_)
            obtain ⟨rfl, x47⟩ := hp46
            refine zk_ite (fun h51 => ?_) (fun h51 => ?_)
            · have g52 := zeq h51
              exact zk_some hσ
            · have g53 := zne h51
              obtain ⟨_d48, _d49, _d50⟩ := x47.resolve_left h51
              unfold B_X6_mark_92
              have z54 : zin a2 24 = true := zin_mkT (zTs a2) (by omega) (by omega)
              refine zk_in z54 ?_
              refine zk_let (fun σ4 q56 => ?_)
              have hS55 : IX σ4 := by rw [q56]; exact IX.up hσ (xH1 (xH (zIn z11).2)) trivial
              exact zk_some hS55
    · have g57 := zne h14
      exact zk_some hσ

set_option maxHeartbeats 400000 in
theorem s_X6_pour (a1 : Int32) (σ : zg_S) (hσ : IX σ)  : zk (f_X6_pour a1 σ) (fun r s => IX s) := by
  unfold f_X6_pour
  refine zk_call (s_X6_isSheet a1 σ hσ ) (fun r45 σ46 hp1 => ?_)
  obtain ⟨rfl, x2⟩ := hp1
  refine zk_ite (fun h6 => ?_) (fun h6 => ?_)
  · have g7 := zeq h6
    have e8 := zt_0
    exact zk_some hσ
  · have g9 := zne h6
    have e10 := zt_0
    obtain ⟨_d3, _d4, _d5⟩ := x2.resolve_left h6
    have z11 : zin a1 4 = true := zin_mkT (zTs a1) (by omega) (by omega)
    refine zk_in z11 ?_
    refine zk_call (s_X2_isMissing (53 + 2 * (Int32.toNatClampNeg a1)) σ hσ (xH (zIn z11).2)) (fun r59 σ60 hp12 => ?_)
    obtain ⟨rfl, x13⟩ := hp12
    refine zk_ite (fun h14 => ?_) (fun h14 => ?_)
    · have g15 := zeq h14
      unfold L_X6_pour_32
      refine zl_NII (fun (q2v : Nat) (x3 : Int32) (x4 : Int32) (s32_ : zg_S) => IX s32_ ∧ XL.2.1 q2v = 2 ∧ 0 ≤ x4.toInt ∧ x4.toInt ≤ 9) (fun (q2v : Nat) (x3 : Int32) (x4 : Int32) (s32_ : zg_S) => (9 - x4.toInt).toNat) ?_ zfu (53 + 2 * (Int32.toNatClampNeg a1)) 0 0 σ ⟨hσ, (xH (zIn z11).2), (by omega), (by omega)⟩ (by unfold zfu; omega)
      intro rec32_ q2v x3 x4 s32_ hI16 ih32_
      obtain ⟨hS17, hk18, i19, i20⟩ := hI16
      unfold B_X6_pour_32
      refine zk_ite (fun h21 => ?_) (fun h21 => ?_)
      · have g22 := zle h21
        have f23 : 0 ≤ (s32_ 153 3).toInt ∧ (s32_ 153 3).toInt ≤ 9 := IXf hS17 xk_153 3
        exact zk_some hS17
      · have g24 := znle h21
        have f25 : 0 ≤ (s32_ 153 3).toInt ∧ (s32_ 153 3).toInt ≤ 9 := IXf hS17 xk_153 3
        refine zk_call (s_X2_hasNumber q2v x4 s32_ hS17 hk18) (fun r17 σ18 hp26 => ?_)
        obtain ⟨rfl, x27⟩ := hp26
        have f28 : 0 ≤ (s32_ q2v 1).toInt ∧ (s32_ q2v 1).toInt ≤ 24 := IXf hS17 hk18 1
        refine zk_ite (fun h32 => ?_) (fun h32 => ?_)
        · have g33 := zeq h32
          have e34 := zt_0
          unfold B_X6_pour_110
          exact ih32_ q2v x3 (x4 + 1) s32_ ⟨hS17, hk18, (by rw [zTe (zTadd (zTs x4) (zTl zt_1) (by omega) (by omega))]; omega), (by rw [zTe (zTadd (zTs x4) (zTl zt_1) (by omega) (by omega))]; omega)⟩ (by show (9 - (x4 + 1).toInt).toNat < (9 - x4.toInt).toNat; rw [zTe (zTadd (zTs x4) (zTl zt_1) (by omega) (by omega))]; omega)
        · have g35 := zne h32
          have e36 := zt_0
          obtain ⟨_d29, _d30, _d31⟩ := x27.resolve_left h32
          have z37 : zin x4 24 = true := zin_mkT (zTs x4) (by omega) (by omega)
          refine zk_in z37 ?_
          have e38 := zt_999
          refine zk_call (s_X6_held (s32_ (q2v + 1) (Int32.toNatClampNeg x4)) 0 999 s32_ hS17 ) (fun r30 σ31 hp39 => ?_)
          obtain ⟨rfl, x40⟩ := hp39
          have z41 : zin x4 9 = true := zin_mkT (zTs x4) (by omega) (by omega)
          refine zk_in z41 ?_
          refine zk_ite (fun h42 => ?_) (fun h42 => ?_)
          · have g43 := zeq h42
            unfold B_X6_pour_93
            refine zk_in z41 ?_
            refine zk_let (fun σ8 q45 => ?_)
            have hS44 : IX σ8 := by rw [q45]; exact IX.up hS17 (xS xk_154 (zIn z41).2) trivial
            unfold B_X6_pour_110
            exact ih32_ q2v (x3 + 0) (x4 + 1) σ8 ⟨hS44, hk18, (by rw [zTe (zTadd (zTs x4) (zTl zt_1) (by omega) (by omega))]; omega), (by rw [zTe (zTadd (zTs x4) (zTl zt_1) (by omega) (by omega))]; omega)⟩ (by show (9 - (x4 + 1).toInt).toNat < (9 - x4.toInt).toNat; rw [zTe (zTadd (zTs x4) (zTl zt_1) (by omega) (by omega))]; omega)
          · have g46 := zne h42
            unfold B_X6_pour_93
            refine zk_in z41 ?_
            refine zk_let (fun σ8 q48 => ?_)
            have hS47 : IX σ8 := by rw [q48]; exact IX.up hS17 (xS xk_154 (zIn z41).2) trivial
            unfold B_X6_pour_110
            exact ih32_ q2v (x3 + 1) (x4 + 1) σ8 ⟨hS47, hk18, (by rw [zTe (zTadd (zTs x4) (zTl zt_1) (by omega) (by omega))]; omega), (by rw [zTe (zTadd (zTs x4) (zTl zt_1) (by omega) (by omega))]; omega)⟩ (by show (9 - (x4 + 1).toInt).toNat < (9 - x4.toInt).toNat; rw [zTe (zTadd (zTs x4) (zTl zt_1) (by omega) (by omega))]; omega)
    · have g49 := zne h14
      exact zk_some hσ

set_option maxHeartbeats 400000 in
theorem s_X6_reads (a1 : Int32) (σ : zg_S) (hσ : IX σ)  : zk (f_X6_reads a1 σ) (fun r s => IX s) := by
  unfold f_X6_reads
  refine zk_call (s_X6_isSheet a1 σ hσ ) (fun r42 σ43 hp1 => ?_)
  obtain ⟨rfl, x2⟩ := hp1
  refine zk_ite (fun h6 => ?_) (fun h6 => ?_)
  · have g7 := zeq h6
    have e8 := zt_0
    exact zk_some hσ
  · have g9 := zne h6
    have e10 := zt_0
    obtain ⟨_d3, _d4, _d5⟩ := x2.resolve_left h6
    have z11 : zin a1 4 = true := zin_mkT (zTs a1) (by omega) (by omega)
    refine zk_in z11 ?_
    refine zk_call (s_X2_isMissing (53 + 2 * (Int32.toNatClampNeg a1)) σ hσ (xH (zIn z11).2)) (fun r56 σ57 hp12 => ?_)
    obtain ⟨rfl, x13⟩ := hp12
    refine zk_ite (fun h14 => ?_) (fun h14 => ?_)
    · have g15 := zeq h14
      unfold L_X6_reads_29
      refine zl_NI (fun (q2v : Nat) (x3 : Int32) (s29_ : zg_S) => IX s29_ ∧ XL.2.1 q2v = 2 ∧ 0 ≤ x3.toInt ∧ x3.toInt ≤ 24) (fun (q2v : Nat) (x3 : Int32) (s29_ : zg_S) => (24 - x3.toInt).toNat) ?_ zfu (53 + 2 * (Int32.toNatClampNeg a1)) 0 σ ⟨hσ, (xH (zIn z11).2), (by omega), (by omega)⟩ (by unfold zfu; omega)
      intro rec29_ q2v x3 s29_ hI16 ih29_
      obtain ⟨hS17, hk18, i19, i20⟩ := hI16
      unfold B_X6_reads_29
      refine zk_ite (fun h21 => ?_) (fun h21 => ?_)
      · have g22 := zle h21
        have f23 : 0 ≤ (s29_ q2v 1).toInt ∧ (s29_ q2v 1).toInt ≤ 24 := IXf hS17 hk18 1
        exact zk_some hS17
      · have g24 := znle h21
        have f25 : 0 ≤ (s29_ q2v 1).toInt ∧ (s29_ q2v 1).toInt ≤ 24 := IXf hS17 hk18 1
        refine zk_call (s_X2_hasNumber q2v x3 s29_ hS17 hk18) (fun r6 σ7 hp26 => ?_)
        obtain ⟨rfl, x27⟩ := hp26
        refine zk_ite (fun h31 => ?_) (fun h31 => ?_)
        · have g32 := zeq h31
          have e33 := zt_0
          unfold B_X6_reads_80
          exact ih29_ q2v (x3 + 1) s29_ ⟨hS17, hk18, (by rw [zTe (zTadd (zTs x3) (zTl zt_1) (by omega) (by omega))]; omega), (by rw [zTe (zTadd (zTs x3) (zTl zt_1) (by omega) (by omega))]; omega)⟩ (by show (24 - (x3 + 1).toInt).toNat < (24 - x3.toInt).toNat; rw [zTe (zTadd (zTs x3) (zTl zt_1) (by omega) (by omega))]; omega)
        · have g34 := zne h31
          have e35 := zt_0
          obtain ⟨_d28, _d29, _d30⟩ := x27.resolve_left h31
          refine zk_call (s_X6_isStall x3 s29_ hS17 ) (fun r16 σ17 hp36 => ?_)
          obtain ⟨rfl, x37⟩ := hp36
          have f38 : 0 ≤ (s29_ 153 3).toInt ∧ (s29_ 153 3).toInt ≤ 9 := IXf hS17 xk_153 3
          refine zk_ite (fun h42 => ?_) (fun h42 => ?_)
          · have g43 := zeq h42
            exact zk_some hS17
          · have g44 := zne h42
            obtain ⟨_d39, _d40, _d41⟩ := x37.resolve_left h42
            have z45 : zin x3 24 = true := zin_mkT (zTs x3) (by omega) (by omega)
            refine zk_in z45 ?_
            have z46 : zin x3 9 = true := zin_mkT (zTs x3) (by omega) (by omega)
            refine zk_in z46 ?_
            have e47 := zt_153
            refine zk_call (s_X0_lossOf 153 (154 + 2 + (Int32.toNatClampNeg x3)) s29_ hS17 xk_153 (xS xk_154 (zIn z46).2)) (fun r32 σ33 hp48 => ?_)
            have hS49 := hp48
            refine zk_ite (fun h50 => ?_) (fun h50 => ?_)
            · have g51 := zeq h50
              unfold B_X6_reads_80
              exact ih29_ q2v (x3 + 1) σ33 ⟨hS49, hk18, (by rw [zTe (zTadd (zTs x3) (zTl zt_1) (by omega) (by omega))]; omega), (by rw [zTe (zTadd (zTs x3) (zTl zt_1) (by omega) (by omega))]; omega)⟩ (by show (24 - (x3 + 1).toInt).toNat < (24 - x3.toInt).toNat; rw [zTe (zTadd (zTs x3) (zTl zt_1) (by omega) (by omega))]; omega)
            · have g52 := zne h50
              exact zk_some hS49
    · have g53 := zne h14
      exact zk_some hσ

set_option maxHeartbeats 400000 in
theorem s_X6_rest (a1 : Int32) (a2 : Int32) (σ : zg_S) (hσ : IX σ)  : zk (f_X6_rest a1 a2 σ) (fun r s => σ = s) := by
  unfold f_X6_rest
  refine zk_call (s_X6_isSlot a1 σ hσ ) (fun r1 σ2 hp1 => ?_)
  obtain ⟨rfl, x2⟩ := hp1
  refine zk_ite (fun h6 => ?_) (fun h6 => ?_)
  · have g7 := zeq h6
    have e8 := zt_0
    exact zk_some rfl
  · have g9 := zne h6
    have e10 := zt_0
    obtain ⟨_d3, _d4, _d5⟩ := x2.resolve_left h6
    have z11 : zin a1 5 = true := zin_mkT (zTs a1) (by omega) (by omega)
    refine zk_in z11 ?_
    have e12 := zt_3
    refine zk_call (s_X3_refuses (61 + 4 * (Int32.toNatClampNeg a1)) 3 σ hσ (xO (zIn z11).2)) (fun r13 σ14 hp13 => ?_)
    subst hp13
    refine zk_ite (fun h14 => ?_) (fun h14 => ?_)
    · have g15 := zeq h14
      refine zk_ite (fun h16 => ?_) (fun h16 => ?_)
      · have g17 := zeq h16
        exact zk_some rfl
      · have g18 := zne h16
        refine zk_nz (by first | assumption | omega) ?_
        exact zk_some rfl
    · have g19 := zne h14
      exact zk_some rfl

set_option maxHeartbeats 400000 in
theorem s_X6_ruleFirst (a1 : Int32) (σ : zg_S) (hσ : IX σ)  : zk (f_X6_ruleFirst a1 σ) (fun r s => IX s) := by
  unfold f_X6_ruleFirst
  have e1 := zt_153
  refine zk_call (s_X0_lastFirst 153 σ hσ xk_153) (fun r1 σ2 hp2 => ?_)
  subst hp2
  have e3 := zt_0
  refine zk_call (s_X6_within a1 0 r1 σ hσ ) (fun r8 σ9 hp4 => ?_)
  obtain ⟨rfl, x5⟩ := hp4
  refine zk_ite (fun h9 => ?_) (fun h9 => ?_)
  · have g10 := zeq h9
    exact zk_some hσ
  · have g11 := zne h9
    obtain ⟨_d6, _d7, _d8⟩ := x5.resolve_left h9
    refine zk_let (fun σ19 q13 => ?_)
    have hS12 : IX σ19 := by rw [q13]; exact IX.up hσ xk_153 trivial
    exact zk_some hS12

set_option maxHeartbeats 400000 in
theorem s_X6_ruleWidth (a1 : Int32) (σ : zg_S) (hσ : IX σ)  : zk (f_X6_ruleWidth a1 σ) (fun r s => IX s) := by
  unfold f_X6_ruleWidth
  have e1 := zt_1
  have e2 := zt_6
  refine zk_call (s_X6_within a1 1 6 σ hσ ) (fun r1 σ2 hp3 => ?_)
  obtain ⟨rfl, x4⟩ := hp3
  refine zk_ite (fun h8 => ?_) (fun h8 => ?_)
  · have g9 := zeq h8
    have e10 := zt_0
    exact zk_some hσ
  · have g11 := zne h8
    have e12 := zt_0
    obtain ⟨_d5, _d6, _d7⟩ := x4.resolve_left h8
    have e13 := zt_153
    refine zk_call (s_X0_widen 153 a1 σ hσ xk_153) (fun r12 σ13 hp14 => ?_)
    have hS15 := hp14
    exact zk_some hS15

set_option maxHeartbeats 400000 in
theorem s_X6_ruleGust (a1 : Int32) (σ : zg_S) (hσ : IX σ)  : zk (f_X6_ruleGust a1 σ) (fun r s => IX s) := by
  unfold f_X6_ruleGust
  have e1 := zt_0
  have e2 := zt_100
  refine zk_call (s_X6_within a1 0 100 σ hσ ) (fun r1 σ2 hp3 => ?_)
  obtain ⟨rfl, x4⟩ := hp3
  refine zk_ite (fun h8 => ?_) (fun h8 => ?_)
  · have g9 := zeq h8
    exact zk_some hσ
  · have g10 := zne h8
    obtain ⟨_d5, _d6, _d7⟩ := x4.resolve_left h8
    refine zk_let (fun σ12 q12 => ?_)
    have hS11 : IX σ12 := by rw [q12]; exact IX.up hσ xk_153 trivial
    exact zk_some hS11

set_option maxHeartbeats 400000 in
theorem s_X6_ruleMode (a1 : Int32) (σ : zg_S) (hσ : IX σ)  : zk (f_X6_ruleMode a1 σ) (fun r s => IX s) := by
  unfold f_X6_ruleMode
  have e1 := zt_0
  have e2 := zt_2
  refine zk_call (s_X6_within a1 0 2 σ hσ ) (fun r1 σ2 hp3 => ?_)
  obtain ⟨rfl, x4⟩ := hp3
  refine zk_ite (fun h8 => ?_) (fun h8 => ?_)
  · have g9 := zeq h8
    exact zk_some hσ
  · have g10 := zne h8
    obtain ⟨_d5, _d6, _d7⟩ := x4.resolve_left h8
    refine zk_let (fun σ12 q12 => ?_)
    have hS11 : IX σ12 := by rw [q12]; exact IX.up hσ xk_153 trivial
    exact zk_some hS11

set_option maxHeartbeats 400000 in
theorem s_X6_rule (a1 : Int32) (a2 : Int32) (σ : zg_S) (hσ : IX σ)  : zk (f_X6_rule a1 a2 σ) (fun r s => IX s) := by
  unfold f_X6_rule
  refine zk_ite (fun h1 => ?_) (fun h1 => ?_)
  · have g2 := zeq h1
    have e3 := zt_0
    refine zk_call (s_X6_ruleFirst a2 σ hσ ) (fun r3 σ4 hp4 => ?_)
    have hS5 := hp4
    exact zk_some hS5
  · have g6 := zne h1
    have e7 := zt_0
    refine zk_ite (fun h8 => ?_) (fun h8 => ?_)
    · have g9 := zeq h8
      have e10 := zt_1
      refine zk_call (s_X6_ruleWidth a2 σ hσ ) (fun r13 σ14 hp11 => ?_)
      have hS12 := hp11
      exact zk_some hS12
    · have g13 := zne h8
      have e14 := zt_1
      refine zk_ite (fun h15 => ?_) (fun h15 => ?_)
      · have g16 := zeq h15
        have e17 := zt_2
        refine zk_call (s_X6_ruleGust a2 σ hσ ) (fun r23 σ24 hp18 => ?_)
        have hS19 := hp18
        exact zk_some hS19
      · have g20 := zne h15
        have e21 := zt_2
        refine zk_ite (fun h22 => ?_) (fun h22 => ?_)
        · have g23 := zeq h22
          have e24 := zt_3
          refine zk_call (s_X6_ruleMode a2 σ hσ ) (fun r33 σ34 hp25 => ?_)
          have hS26 := hp25
          exact zk_some hS26
        · have g27 := zne h22
          have e28 := zt_3
          exact zk_some hσ

