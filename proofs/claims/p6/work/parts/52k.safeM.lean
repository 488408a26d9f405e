set_option maxHeartbeats 400000 in
theorem s_X7_pour (a1 : Int32) (σ : zg_S) (hσ : IMc σ)  : zk (f_X7_pour a1 σ) (fun r s => IMc s ∧ hi σ s) := by
  unfold f_X7_pour
  refine zk_call (s_X7_isSheet a1 σ hσ ) (fun r47 σ48 hp1 => ?_)
  obtain ⟨rfl, x2⟩ := hp1
  refine zk_ite (fun h6 => ?_) (fun h6 => ?_)
  · have g7 := zeq h6
    have e8 := zt_0
    exact zk_some ⟨hσ, hi.rf⟩
  · have g9 := zne h6
    have e10 := zt_0
    obtain ⟨_d3, _d4, _d5⟩ := x2.resolve_left h6
    have z11 : zin a1 4 = true := zin_mkT (zTs a1) (by omega) (by omega)
    refine zk_in z11 ?_
    refine zk_ite (fun h12 => ?_) (fun h12 => ?_)
    · have g13 := zle h12
      unfold L_X7_pour_27
      refine zl_II (fun (x2 : Int32) (x3 : Int32) (s27_ : zg_S) => IMc s27_ ∧ hi σ s27_ ∧ 0 ≤ x3.toInt ∧ x3.toInt ≤ 24) (fun (x2 : Int32) (x3 : Int32) (s27_ : zg_S) => (24 - x3.toInt).toNat) ?_ zfu 0 0 σ ⟨hσ, hi.rf, (by omega), (by omega)⟩ (by unfold zfu; omega)
      intro rec27_ x2 x3 s27_ hI14 ih27_
      obtain ⟨hS15, hH16, i17, i18⟩ := hI14
      unfold B_X7_pour_27
      refine zk_in z11 ?_
      refine zk_ite (fun h19 => ?_) (fun h19 => ?_)
      · have g20 := zle h19
        have f21 : 0 ≤ (s27_ 5 (Int32.toNatClampNeg a1)).toInt ∧ (s27_ 5 (Int32.toNatClampNeg a1)).toInt ≤ 24 := IMf hS15 5 (Int32.toNatClampNeg a1)
        exact zk_some ⟨hS15, hH16⟩
      · have g22 := znle h19
        have f23 : 0 ≤ (s27_ 5 (Int32.toNatClampNeg a1)).toInt ∧ (s27_ 5 (Int32.toNatClampNeg a1)).toInt ≤ 24 := IMf hS15 5 (Int32.toNatClampNeg a1)
        refine zk_ite (fun h24 => ?_) (fun h24 => ?_)
        · have g25 := zle h24
          have f26 : 0 ≤ (s27_ 1 0).toInt ∧ (s27_ 1 0).toInt ≤ 9 := IMf hS15 1 0
          exact zk_some ⟨hS15, hH16⟩
        · have g27 := znle h24
          have f28 : 0 ≤ (s27_ 1 0).toInt ∧ (s27_ 1 0).toInt ≤ 9 := IMf hS15 1 0
          have z29 : zin ((24 * a1) + x3) 96 = true := zin_mkT (zTadd (zTmul (zTl zt_24) (zTs a1) (by omega) (by omega)) (zTs x3) (by omega) (by omega)) (by omega) (by omega)
          refine zk_in z29 ?_
          refine zk_let (fun y29 ey30 => ?_)
          refine zk_ite (fun h31 => ?_) (fun h31 => ?_)
          · have g32 := zeq h31
            have e33 := zt_m1000000005
            have z34 : zin ((11 + (4 * x3)) + 2) 3047 = true := zin_mkT (zTadd (zTadd (zTl zt_11) (zTmul (zTl zt_4) (zTs x3) (by omega) (by omega)) (by omega) (by omega)) (zTl zt_2) (by omega) (by omega)) (by omega) (by omega)
            refine zk_in z34 ?_
            unfold B_X7_pour_91
            refine zk_call (s_X7_becomes ((11 + (4 * x3)) + 2) (s27_ 1 (Int32.toNatClampNeg ((11 + (4 * x3)) + 2))) s27_ hS15 (by rw [zTe (zTadd (zTadd (zTl zt_11) (zTmul (zTl zt_4) (zTs x3) (by omega) (by omega)) (by omega) (by omega)) (zTl zt_2) (by omega) (by omega))]; omega) (by rw [zTe (zTadd (zTadd (zTl zt_11) (zTmul (zTl zt_4) (zTs x3) (by omega) (by omega)) (by omega) (by omega)) (zTl zt_2) (by omega) (by omega))]; omega)) (fun r7 σ8 hp35 => ?_)
            obtain ⟨hS36, hH37⟩ := hp35
            refine zk_ite (fun h38 => ?_) (fun h38 => ?_)
            · have g39 := zeq h38
              unfold B_X7_pour_118
              exact ih27_ (x2 + 0) (x3 + 1) σ8 ⟨hS36, (hH16.tr hH37), (by rw [zTe (zTadd (zTs x3) (zTl zt_1) (by omega) (by omega))]; omega), (by rw [zTe (zTadd (zTs x3) (zTl zt_1) (by omega) (by omega))]; omega)⟩ (by show (24 - (x3 + 1).toInt).toNat < (24 - x3.toInt).toNat; rw [zTe (zTadd (zTs x3) (zTl zt_1) (by omega) (by omega))]; omega)
            · have g40 := zne h38
              unfold B_X7_pour_118
              exact ih27_ (x2 + 1) (x3 + 1) σ8 ⟨hS36, (hH16.tr hH37), (by rw [zTe (zTadd (zTs x3) (zTl zt_1) (by omega) (by omega))]; omega), (by rw [zTe (zTadd (zTs x3) (zTl zt_1) (by omega) (by omega))]; omega)⟩ (by show (24 - (x3 + 1).toInt).toNat < (24 - x3.toInt).toNat; rw [zTe (zTadd (zTs x3) (zTl zt_1) (by omega) (by omega))]; omega)
          · have g41 := zne h31
            have e42 := zt_m1000000005
            have e43 := zt_999
            refine zk_call (s_X7_within y29 999 s27_ hS15 ) (fun r36 σ37 hp44 => ?_)
            subst hp44
            unfold B_X7_pour_91
            refine zk_call (s_X7_becomes ((11 + (4 * x3)) + 2) r36 s27_ hS15 (by rw [zTe (zTadd (zTadd (zTl zt_11) (zTmul (zTl zt_4) (zTs x3) (by omega) (by omega)) (by omega) (by omega)) (zTl zt_2) (by omega) (by omega))]; omega) (by rw [zTe (zTadd (zTadd (zTl zt_11) (zTmul (zTl zt_4) (zTs x3) (by omega) (by omega)) (by omega) (by omega)) (zTl zt_2) (by omega) (by omega))]; omega)) (fun r7 σ8 hp45 => ?_)
            obtain ⟨hS46, hH47⟩ := hp45
            refine zk_ite (fun h48 => ?_) (fun h48 => ?_)
            · have g49 := zeq h48
              unfold B_X7_pour_118
              exact ih27_ (x2 + 0) (x3 + 1) σ8 ⟨hS46, (hH16.tr hH47), (by rw [zTe (zTadd (zTs x3) (zTl zt_1) (by omega) (by omega))]; omega), (by rw [zTe (zTadd (zTs x3) (zTl zt_1) (by omega) (by omega))]; omega)⟩ (by show (24 - (x3 + 1).toInt).toNat < (24 - x3.toInt).toNat; rw [zTe (zTadd (zTs x3) (zTl zt_1) (by omega) (by omega))]; omega)
            · have g50 := zne h48
              unfold B_X7_pour_118
              exact ih27_ (x2 + 1) (x3 + 1) σ8 ⟨hS46, (hH16.tr hH47), (by rw [zTe (zTadd (zTs x3) (zTl zt_1) (by omega) (by omega))]; omega), (by rw [zTe (zTadd (zTs x3) (zTl zt_1) (by omega) (by omega))]; omega)⟩ (by show (24 - (x3 + 1).toInt).toNat < (24 - x3.toInt).toNat; rw [zTe (zTadd (zTs x3) (zTl zt_1) (by omega) (by omega))]; omega)
    · have g51 := znle h12
      exact zk_some ⟨hσ, hi.rf⟩

set_option maxHeartbeats 400000 in
theorem s_X7_reads (a1 : Int32) (σ : zg_S) (hσ : IMc σ) (hW : WF (σ 1)) : zk (f_X7_reads a1 σ) (fun r s => IMc s ∧ hi σ s) := by
  unfold f_X7_reads
  refine zk_call (s_X7_isSheet a1 σ hσ ) (fun r33 σ34 hp1 => ?_)
  obtain ⟨rfl, x2⟩ := hp1
  refine zk_ite (fun h6 => ?_) (fun h6 => ?_)
  · have g7 := zeq h6
    have e8 := zt_0
    exact zk_some ⟨hσ, hi.rf⟩
  · have g9 := zne h6
    have e10 := zt_0
    obtain ⟨_d3, _d4, _d5⟩ := x2.resolve_left h6
    have z11 : zin a1 4 = true := zin_mkT (zTs a1) (by omega) (by omega)
    refine zk_in z11 ?_
    refine zk_ite (fun h12 => ?_) (fun h12 => ?_)
    · have g13 := zle h12
      unfold L_X7_reads_25
      refine zl_I (fun (x2 : Int32) (s25_ : zg_S) => IMc s25_ ∧ hi σ s25_ ∧ 0 ≤ x2.toInt ∧ x2.toInt ≤ 24) (fun (x2 : Int32) (s25_ : zg_S) => (24 - x2.toInt).toNat) ?_ zfu 0 σ ⟨hσ, hi.rf, (by omega), (by omega)⟩ (by unfold zfu; omega)
      intro rec25_ x2 s25_ hI14 ih25_
      obtain ⟨hS15, hH16, i17, i18⟩ := hI14
      unfold B_X7_reads_25
      refine zk_in z11 ?_
      refine zk_ite (fun h19 => ?_) (fun h19 => ?_)
      · have g20 := zle h19
        have f21 : 0 ≤ (s25_ 5 (Int32.toNatClampNeg a1)).toInt ∧ (s25_ 5 (Int32.toNatClampNeg a1)).toInt ≤ 24 := IMf hS15 5 (Int32.toNatClampNeg a1)
        exact zk_some ⟨hS15, hH16⟩
      · have g22 := znle h19
        have f23 : 0 ≤ (s25_ 5 (Int32.toNatClampNeg a1)).toInt ∧ (s25_ 5 (Int32.toNatClampNeg a1)).toInt ≤ 24 := IMf hS15 5 (Int32.toNatClampNeg a1)
        have z24 : zin ((24 * a1) + x2) 96 = true := zin_mkT (zTadd (zTmul (zTl zt_24) (zTs a1) (by omega) (by omega)) (zTs x2) (by omega) (by omega)) (by omega) (by omega)
        refine zk_in z24 ?_
        refine zk_let (fun y12 ey25 => ?_)
        refine zk_ite (fun h26 => ?_) (fun h26 => ?_)
        · have g27 := zeq h26
          have e28 := zt_m1000000005
          unfold B_X7_reads_74
          exact ih25_ (x2 + 1) s25_ ⟨hS15, hH16, (by rw [zTe (zTadd (zTs x2) (zTl zt_1) (by omega) (by omega))]; omega), (by rw [zTe (zTadd (zTs x2) (zTl zt_1) (by omega) (by omega))]; omega)⟩ (by show (24 - (x2 + 1).toInt).toNat < (24 - x2.toInt).toNat; rw [zTe (zTadd (zTs x2) (zTl zt_1) (by omega) (by omega))]; omega)
        · have g29 := zne h26
          have e30 := zt_m1000000005
          refine zk_ite (fun h31 => ?_) (fun h31 => ?_)
          · have g32 := zle h31
            have f33 : 0 ≤ (s25_ 1 0).toInt ∧ (s25_ 1 0).toInt ≤ 9 := IMf hS15 1 0
            exact zk_some ⟨hS15, hH16⟩
          · have g34 := znle h31
            have f35 : 0 ≤ (s25_ 1 0).toInt ∧ (s25_ 1 0).toInt ≤ 9 := IMf hS15 1 0
            refine zk_call (s_X7_spoils x2 s25_ hS15 (WF.hi hW hH16) (by omega) (by omega)) (fun r23 σ24 hp36 => ?_)
            obtain ⟨hS37, hH38⟩ := hp36
            refine zk_ite (fun h39 => ?_) (fun h39 => ?_)
            · have g40 := zeq h39
              unfold B_X7_reads_74
              exact ih25_ (x2 + 1) σ24 ⟨hS37, (hH16.tr hH38), (by rw [zTe (zTadd (zTs x2) (zTl zt_1) (by omega) (by omega))]; omega), (by rw [zTe (zTadd (zTs x2) (zTl zt_1) (by omega) (by omega))]; omega)⟩ (by show (24 - (x2 + 1).toInt).toNat < (24 - x2.toInt).toNat; rw [zTe (zTadd (zTs x2) (zTl zt_1) (by omega) (by omega))]; omega)
            · have g41 := zne h39
              exact zk_some ⟨hS37, (hH16.tr hH38)⟩
    · have g42 := znle h12
      exact zk_some ⟨hσ, hi.rf⟩

set_option maxHeartbeats 400000 in
theorem s_X7_rest (a1 : Int32) (a2 : Int32) (σ : zg_S) (hσ : IMc σ)  : zk (f_X7_rest a1 a2 σ) (fun r s => σ = s) := by
  unfold f_X7_rest
  refine zk_call (s_X7_isSlot a1 σ hσ ) (fun r1 σ2 hp1 => ?_)
  obtain ⟨rfl, x2⟩ := hp1
  refine zk_ite (fun h6 => ?_) (fun h6 => ?_)
  · have g7 := zeq h6
    have e8 := zt_0
    exact zk_some rfl
  · have g9 := zne h6
    have e10 := zt_0
    obtain ⟨_d3, _d4, _d5⟩ := x2.resolve_left h6
    have z11 : zin a1 5 = true := zin_mkT (zTs a1) (by omega) (by omega)
    refine zk_in z11 ?_
    refine zk_ite (fun h12 => ?_) (fun h12 => ?_)
    · have g13 := zeq h12
      have e14 := zt_3
      refine zk_ite (fun h15 => ?_) (fun h15 => ?_)
      · have g16 := zeq h15
        exact zk_some rfl
      · have g17 := zne h15
        refine zk_nz (by first | assumption | omega) ?_
        exact zk_some rfl
    · have g18 := zne h12
      have e19 := zt_3
      refine zk_ite (fun h20 => ?_) (fun h20 => ?_)
      · have g21 := zeq h20
        exact zk_some rfl
      · have g22 := zne h20
        exact zk_some rfl

set_option maxHeartbeats 400000 in
theorem s_X7_rule (a1 : Int32) (a2 : Int32) (σ : zg_S) (hσ : IMc σ)  : zk (f_X7_rule a1 a2 σ) (fun r s => IMc s ∧ hi σ s) := by
  unfold f_X7_rule
  have j1 := zI64 a1
  have j2 := zI64 0
  have e3 := zt_0
  have j4 := zI64 3
  have e5 := zt_3
  refine zk_call (s_X7_isIn (Int32.toInt64 a1) (Int32.toInt64 0) (Int32.toInt64 3) σ hσ ) (fun r34 σ35 hp6 => ?_)
  obtain ⟨rfl, x7⟩ := hp6
  refine zk_ite (fun h11 => ?_) (fun h11 => ?_)
  · have g12 := zeq h11
    exact zk_some ⟨hσ, hi.rf⟩
  · have g13 := zne h11
    obtain ⟨_d8, _d9, _d10⟩ := x7.resolve_left h11
    refine zk_ite (fun h14 => ?_) (fun h14 => ?_)
    · have g15 := zeq h14
      have e16 := zt_1
      unfold B_X7_rule_24
      refine zk_call (s_X7_mostOf a1 σ hσ ) (fun r1 σ2 hp17 => ?_)
      subst hp17
      have j18 := zI64 a2
      have j19 := zI64 1
      have j20 := zI64 r1
      refine zk_call (s_X7_isIn (Int32.toInt64 a2) (Int32.toInt64 1) (Int32.toInt64 r1) σ hσ ) (fun r8 σ9 hp21 => ?_)
      obtain ⟨rfl, x22⟩ := hp21
      refine zk_ite (fun h26 => ?_) (fun h26 => ?_)
      · have g27 := zeq h26
        exact zk_some ⟨hσ, hi.rf⟩
      · have g28 := zne h26
        obtain ⟨_d23, _d24, _d25⟩ := x22.resolve_left h26
        refine zk_call (s_X7_becomes (7 + a1) a2 σ hσ (by rw [zTe (zTadd (zTl zt_7) (zTs a1) (by omega) (by omega))]; omega) (by rw [zTe (zTadd (zTl zt_7) (zTs a1) (by omega) (by omega))]; omega)) (fun r17 σ18 hp29 => ?_)
        obtain ⟨hS30, hH31⟩ := hp29
        refine zk_call (s_X7_holds σ18 hS30 ) (fun r26 σ27 hp32 => ?_)
        obtain ⟨hS33, hH34⟩ := hp32
        exact zk_some ⟨hS33, ((hi.rf.tr hH31).tr hH34)⟩
    · have g35 := zne h14
      have e36 := zt_1
      unfold B_X7_rule_24
      refine zk_call (s_X7_mostOf a1 σ hσ ) (fun r1 σ2 hp37 => ?_)
      subst hp37
      have j38 := zI64 a2
      have j39 := zI64 r1
      refine zk_call (s_X7_isIn (Int32.toInt64 a2) (Int32.toInt64 0) (Int32.toInt64 r1) σ hσ ) (fun r8 σ9 hp40 => ?_)
      obtain ⟨rfl, x41⟩ := hp40
      refine zk_ite (fun h45 => ?_) (fun h45 => ?_)
      · have g46 := zeq h45
        exact zk_some ⟨hσ, hi.rf⟩
      · have g47 := zne h45
        obtain ⟨_d42, _d43, _d44⟩ := x41.resolve_left h45
        refine zk_call (s_X7_becomes (7 + a1) a2 σ hσ (by rw [zTe (zTadd (zTl zt_7) (zTs a1) (by omega) (by omega))]; omega) (by rw [zTe (zTadd (zTl zt_7) (zTs a1) (by omega) (by omega))]; omega)) (fun r17 σ18 hp48 => ?_)
        obtain ⟨hS49, hH50⟩ := hp48
        refine zk_call (s_X7_holds σ18 hS49 ) (fun r26 σ27 hp51 => ?_)
        obtain ⟨hS52, hH53⟩ := hp51
        exact zk_some ⟨hS52, ((hi.rf.tr hH50).tr hH53)⟩

set_option maxHeartbeats 400000 in
theorem s_X7_seed (a1 : Int32) (σ : zg_S) (hσ : IMc σ)  : zk (f_X7_seed a1 σ) (fun r s => IMc s ∧ hi σ s) := by
  unfold f_X7_seed
  have e1 := zt_6
  refine zk_call (s_X7_becomes 6 a1 σ hσ (by omega) (by omega)) (fun r1 σ2 hp2 => ?_)
  obtain ⟨hS3, hH4⟩ := hp2
  exact zk_some ⟨hS3, (hi.rf.tr hH4)⟩

