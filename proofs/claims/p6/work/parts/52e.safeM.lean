set_option maxHeartbeats 400000 in
theorem s_X7_hauls  (σ : zg_S) (hσ : IMc σ) (hW : WF (σ 1)) : zk (f_X7_hauls  σ) (fun r s => IMc s ∧ hi σ s) := by
  unfold f_X7_hauls
  refine zk_ite (fun h1 => ?_) (fun h1 => ?_)
  · have g2 := zeq h1
    have e3 := zt_0
    exact zk_some ⟨hσ, hi.rf⟩
  · have g4 := zne h1
    have e5 := zt_0
    refine zk_ite (fun h6 => ?_) (fun h6 => ?_)
    · have g7 := zeq h6
      have e8 := zt_2
      have e9 := zt_m1
      refine zk_call (s_X7_payIf (-1) σ hσ ) (fun r101 σ102 hp10 => ?_)
      obtain ⟨hS11, hH12⟩ := hp10
      refine zk_call (s_X7_payIf 0 σ102 hS11 ) (fun r110 σ111 hp13 => ?_)
      obtain ⟨hS14, hH15⟩ := hp13
      refine zk_ite (fun h16 => ?_) (fun h16 => ?_)
      · have g17 := zle h16
        unfold B_X7_hauls_43
        have e18 := zt_1
        refine zk_call (s_X7_payIf 1 σ111 hS14 ) (fun r75 σ76 hp19 => ?_)
        obtain ⟨hS20, hH21⟩ := hp19
        refine zk_call (s_X7_payIf 0 σ76 hS20 ) (fun r82 σ83 hp22 => ?_)
        obtain ⟨hS23, hH24⟩ := hp22
        refine zk_ite (fun h25 => ?_) (fun h25 => ?_)
        · have g26 := zle h25
          exact zk_some ⟨hS23, ((((hi.rf.tr hH12).tr hH15).tr hH21).tr hH24)⟩
        · have g27 := znle h25
          exact zk_some ⟨hS23, ((((hi.rf.tr hH12).tr hH15).tr hH21).tr hH24)⟩
      · have g28 := znle h16
        unfold B_X7_hauls_43
        have e29 := zt_1
        refine zk_call (s_X7_payIf 1 σ111 hS14 ) (fun r75 σ76 hp30 => ?_)
        obtain ⟨hS31, hH32⟩ := hp30
        refine zk_call (s_X7_payIf (-1) σ76 hS31 ) (fun r82 σ83 hp33 => ?_)
        obtain ⟨hS34, hH35⟩ := hp33
        refine zk_ite (fun h36 => ?_) (fun h36 => ?_)
        · have g37 := zle h36
          exact zk_some ⟨hS34, ((((hi.rf.tr hH12).tr hH15).tr hH32).tr hH35)⟩
        · have g38 := znle h36
          exact zk_some ⟨hS34, ((((hi.rf.tr hH12).tr hH15).tr hH32).tr hH35)⟩
    · have g39 := zne h6
      have e40 := zt_2
      have e41 := zt_m1
      unfold L_X7_hauls_67
      refine zl_II (fun (x1 : Int32) (x2 : Int32) (s67_ : zg_S) => IMc s67_ ∧ hi σ s67_ ∧ -1 ≤ x1.toInt ∧ x1.toInt ≤ 8 ∧ 0 ≤ x2.toInt ∧ x2.toInt ≤ 9) (fun (x1 : Int32) (x2 : Int32) (s67_ : zg_S) => (9 - x2.toInt).toNat) ?_ zfu (-1) 0 σ ⟨hσ, hi.rf, (by omega), (by omega), (by omega), (by omega)⟩ (by unfold zfu; omega)
      intro rec67_ x1 x2 s67_ hI42 ih67_
      obtain ⟨hS43, hH44, i45, i46, i47, i48⟩ := hI42
      unfold B_X7_hauls_67
      refine zk_ite (fun h49 => ?_) (fun h49 => ?_)
      · have g50 := zle h49
        have f51 : 0 ≤ (s67_ 1 0).toInt ∧ (s67_ 1 0).toInt ≤ 9 := IMf hS43 1 0
        refine zk_ite (fun h52 => ?_) (fun h52 => ?_)
        · have g53 := zle h52
          have e54 := zt_0
          have e55 := zt_1
          refine zk_call (s_X7_of x1 1 s67_ hS43 (by omega) (by omega) (by omega) (by omega)) (fun r34 σ35 hp56 => ?_)
          subst hp56
          refine zk_call (s_X7_shadeFrom s67_ hS43 ) (fun r41 σ42 hp57 => ?_)
          subst hp57
          refine zk_ite (fun h58 => ?_) (fun h58 => ?_)
          · have g59 := zle h58
            exact zk_some ⟨hS43, hH44⟩
          · have g60 := znle h58
            exact zk_some ⟨hS43, hH44⟩
        · have g61 := znle h52
          have e62 := zt_0
          exact zk_some ⟨hS43, hH44⟩
      · have g63 := znle h49
        have f64 : 0 ≤ (s67_ 1 0).toInt ∧ (s67_ 1 0).toInt ≤ 9 := IMf hS43 1 0
        refine zk_call (s_X7_isShaded x2 s67_ hS43 (by omega) (by omega)) (fun r53 σ54 hp65 => ?_)
        obtain ⟨rfl, x66⟩ := hp65
        refine zk_ite (fun h67 => ?_) (fun h67 => ?_)
        · have g68 := zeq h67
          have e69 := zt_0
          refine zk_call (s_X7_spoils x2 s67_ hS43 (WF.hi hW hH44) (by omega) (by omega)) (fun r63 σ64 hp70 => ?_)
          obtain ⟨hS71, hH72⟩ := hp70
          refine zk_ite (fun h73 => ?_) (fun h73 => ?_)
          · have g74 := zle h73
            unfold B_X7_hauls_97
            unfold B_X7_hauls_98
            refine zk_ite (fun h75 => ?_) (fun h75 => ?_)
            · have g76 := zeq h75
              unfold B_X7_hauls_124
              unfold B_X7_hauls_125
              exact ih67_ x1 (x2 + 1) σ64 ⟨hS71, (hH44.tr hH72), (by omega), (by omega), (by rw [zTe (zTadd (zTs x2) (zTl zt_1) (by omega) (by omega))]; omega), (by rw [zTe (zTadd (zTs x2) (zTl zt_1) (by omega) (by omega))]; omega)⟩ (by show (9 - (x2 + 1).toInt).toNat < (9 - x2.toInt).toNat; rw [zTe (zTadd (zTs x2) (zTl zt_1) (by omega) (by omega))]; omega)
            · have g77 := zne h75
              refine zk_ite (fun h78 => ?_) (fun h78 => ?_)
              · have g79 := zlt h78
                unfold B_X7_hauls_120
                unfold B_X7_hauls_125
                exact ih67_ x2 (x2 + 1) σ64 ⟨hS71, (hH44.tr hH72), (by omega), (by omega), (by rw [zTe (zTadd (zTs x2) (zTl zt_1) (by omega) (by omega))]; omega), (by rw [zTe (zTadd (zTs x2) (zTl zt_1) (by omega) (by omega))]; omega)⟩ (by show (9 - (x2 + 1).toInt).toNat < (9 - x2.toInt).toNat; rw [zTe (zTadd (zTs x2) (zTl zt_1) (by omega) (by omega))]; omega)
              · have g80 := znlt h78
                refine zk_call (s_X7_spoils x2 σ64 hS71 (WF.hi hW (hH44.tr hH72)) (by omega) (by omega)) (fun r13 σ14 hp81 => ?_)
                obtain ⟨hS82, hH83⟩ := hp81
                refine zk_call (s_X7_spoils x1 σ14 hS82 (WF.hi hW ((hH44.tr hH72).tr hH83)) (by omega) (by omega)) (fun r20 σ21 hp84 => ?_)
                obtain ⟨hS85, hH86⟩ := hp84
                refine zk_ite (fun h87 => ?_) (fun h87 => ?_)
                · have g88 := zle h87
                  unfold B_X7_hauls_124
                  unfold B_X7_hauls_125
                  exact ih67_ x1 (x2 + 1) σ21 ⟨hS85, (((hH44.tr hH72).tr hH83).tr hH86), (by omega), (by omega), (by rw [zTe (zTadd (zTs x2) (zTl zt_1) (by omega) (by omega))]; omega), (by rw [zTe (zTadd (zTs x2) (zTl zt_1) (by omega) (by omega))]; omega)⟩ (by show (9 - (x2 + 1).toInt).toNat < (9 - x2.toInt).toNat; rw [zTe (zTadd (zTs x2) (zTl zt_1) (by omega) (by omega))]; omega)
                · have g89 := znle h87
                  unfold B_X7_hauls_120
                  unfold B_X7_hauls_125
                  exact ih67_ x2 (x2 + 1) σ21 ⟨hS85, (((hH44.tr hH72).tr hH83).tr hH86), (by omega), (by omega), (by rw [zTe (zTadd (zTs x2) (zTl zt_1) (by omega) (by omega))]; omega), (by rw [zTe (zTadd (zTs x2) (zTl zt_1) (by omega) (by omega))]; omega)⟩ (by show (9 - (x2 + 1).toInt).toNat < (9 - x2.toInt).toNat; rw [zTe (zTadd (zTs x2) (zTl zt_1) (by omega) (by omega))]; omega)
          · have g90 := znle h73
            unfold B_X7_hauls_98
            refine zk_ite (fun h91 => ?_) (fun h91 => ?_)
            · have g92 := zeq h91
              have e93 := zt_1
              unfold B_X7_hauls_124
              unfold B_X7_hauls_125
              exact ih67_ x1 (x2 + 1) σ64 ⟨hS71, (hH44.tr hH72), (by omega), (by omega), (by rw [zTe (zTadd (zTs x2) (zTl zt_1) (by omega) (by omega))]; omega), (by rw [zTe (zTadd (zTs x2) (zTl zt_1) (by omega) (by omega))]; omega)⟩ (by show (9 - (x2 + 1).toInt).toNat < (9 - x2.toInt).toNat; rw [zTe (zTadd (zTs x2) (zTl zt_1) (by omega) (by omega))]; omega)
            · have g94 := zne h91
              have e95 := zt_1
              refine zk_ite (fun h96 => ?_) (fun h96 => ?_)
              · have g97 := zlt h96
                unfold B_X7_hauls_120
                unfold B_X7_hauls_125
                exact ih67_ x2 (x2 + 1) σ64 ⟨hS71, (hH44.tr hH72), (by omega), (by omega), (by rw [zTe (zTadd (zTs x2) (zTl zt_1) (by omega) (by omega))]; omega), (by rw [zTe (zTadd (zTs x2) (zTl zt_1) (by omega) (by omega))]; omega)⟩ (by show (9 - (x2 + 1).toInt).toNat < (9 - x2.toInt).toNat; rw [zTe (zTadd (zTs x2) (zTl zt_1) (by omega) (by omega))]; omega)
              · have g98 := znlt h96
                refine zk_call (s_X7_spoils x2 σ64 hS71 (WF.hi hW (hH44.tr hH72)) (by omega) (by omega)) (fun r13 σ14 hp99 => ?_)
                obtain ⟨hS100, hH101⟩ := hp99
                refine zk_call (s_X7_spoils x1 σ14 hS100 (WF.hi hW ((hH44.tr hH72).tr hH101)) (by omega) (by omega)) (fun r20 σ21 hp102 => ?_)
                obtain ⟨hS103, hH104⟩ := hp102
                refine zk_ite (fun h105 => ?_) (fun h105 => ?_)
                · have g106 := zle h105
                  unfold B_X7_hauls_124
                  unfold B_X7_hauls_125
                  exact ih67_ x1 (x2 + 1) σ21 ⟨hS103, (((hH44.tr hH72).tr hH101).tr hH104), (by omega), (by omega), (by rw [zTe (zTadd (zTs x2) (zTl zt_1) (by omega) (by omega))]; omega), (by rw [zTe (zTadd (zTs x2) (zTl zt_1) (by omega) (by omega))]; omega)⟩ (by show (9 - (x2 + 1).toInt).toNat < (9 - x2.toInt).toNat; rw [zTe (zTadd (zTs x2) (zTl zt_1) (by omega) (by omega))]; omega)
                · have g107 := znle h105
                  unfold B_X7_hauls_120
                  unfold B_X7_hauls_125
                  exact ih67_ x2 (x2 + 1) σ21 ⟨hS103, (((hH44.tr hH72).tr hH101).tr hH104), (by omega), (by omega), (by rw [zTe (zTadd (zTs x2) (zTl zt_1) (by omega) (by omega))]; omega), (by rw [zTe (zTadd (zTs x2) (zTl zt_1) (by omega) (by omega))]; omega)⟩ (by show (9 - (x2 + 1).toInt).toNat < (9 - x2.toInt).toNat; rw [zTe (zTadd (zTs x2) (zTl zt_1) (by omega) (by omega))]; omega)
        · have g108 := zne h67
          have e109 := zt_0
          unfold B_X7_hauls_97
          unfold B_X7_hauls_98
          refine zk_ite (fun h110 => ?_) (fun h110 => ?_)
          · have g111 := zeq h110
            unfold B_X7_hauls_124
            unfold B_X7_hauls_125
            exact ih67_ x1 (x2 + 1) s67_ ⟨hS43, hH44, (by omega), (by omega), (by rw [zTe (zTadd (zTs x2) (zTl zt_1) (by omega) (by omega))]; omega), (by rw [zTe (zTadd (zTs x2) (zTl zt_1) (by omega) (by omega))]; omega)⟩ (by show (9 - (x2 + 1).toInt).toNat < (9 - x2.toInt).toNat; rw [zTe (zTadd (zTs x2) (zTl zt_1) (by omega) (by omega))]; omega)
          · have g112 := zne h110
            refine zk_ite (fun h113 => ?_) (fun h113 => ?_)
            · have g114 := zlt h113
              unfold B_X7_hauls_120
              unfold B_X7_hauls_125
              exact ih67_ x2 (x2 + 1) s67_ ⟨hS43, hH44, (by omega), (by omega), (by rw [zTe (zTadd (zTs x2) (zTl zt_1) (by omega) (by omega))]; omega), (by rw [zTe (zTadd (zTs x2) (zTl zt_1) (by omega) (by omega))]; omega)⟩ (by show (9 - (x2 + 1).toInt).toNat < (9 - x2.toInt).toNat; rw [zTe (zTadd (zTs x2) (zTl zt_1) (by omega) (by omega))]; omega)
            · have g115 := znlt h113
              refine zk_call (s_X7_spoils x2 s67_ hS43 (WF.hi hW hH44) (by omega) (by omega)) (fun r13 σ14 hp116 => ?_)
              obtain ⟨hS117, hH118⟩ := hp116
              refine zk_call (s_X7_spoils x1 σ14 hS117 (WF.hi hW (hH44.tr hH118)) (by omega) (by omega)) (fun r20 σ21 hp119 => ?_)
              obtain ⟨hS120, hH121⟩ := hp119
              refine zk_ite (fun h122 => ?_) (fun h122 => ?_)
              · have g123 := zle h122
                unfold B_X7_hauls_124
                unfold B_X7_hauls_125
                exact ih67_ x1 (x2 + 1) σ21 ⟨hS120, ((hH44.tr hH118).tr hH121), (by omega), (by omega), (by rw [zTe (zTadd (zTs x2) (zTl zt_1) (by omega) (by omega))]; omega), (by rw [zTe (zTadd (zTs x2) (zTl zt_1) (by omega) (by omega))]; omega)⟩ (by show (9 - (x2 + 1).toInt).toNat < (9 - x2.toInt).toNat; rw [zTe (zTadd (zTs x2) (zTl zt_1) (by omega) (by omega))]; omega)
              · have g124 := znle h122
                unfold B_X7_hauls_120
                unfold B_X7_hauls_125
                exact ih67_ x2 (x2 + 1) σ21 ⟨hS120, ((hH44.tr hH118).tr hH121), (by omega), (by omega), (by rw [zTe (zTadd (zTs x2) (zTl zt_1) (by omega) (by omega))]; omega), (by rw [zTe (zTadd (zTs x2) (zTl zt_1) (by omega) (by omega))]; omega)⟩ (by show (9 - (x2 + 1).toInt).toNat < (9 - x2.toInt).toNat; rw [zTe (zTadd (zTs x2) (zTl zt_1) (by omega) (by omega))]; omega)

set_option maxHeartbeats 400000 in
theorem s_X7_sets (a1 : Int32) (a2 : Int32) (a3 : Int32) (σ : zg_S) (hσ : IMc σ) (hp0_ : 0 ≤ a1.toInt) (hp1_ : a1.toInt ≤ 8) (hp2_ : 0 ≤ a2.toInt) (hp3_ : a2.toInt ≤ 3) : zk (f_X7_sets a1 a2 a3 σ) (fun r s => IMc s ∧ hi σ s) := by
  unfold f_X7_sets
  have z1 : zin ((11 + (4 * a1)) + a2) 3047 = true := zin_mkT (zTadd (zTadd (zTl zt_11) (zTmul (zTl zt_4) (zTs a1) (by omega) (by omega)) (by omega) (by omega)) (zTs a2) (by omega) (by omega)) (by omega) (by omega)
  refine zk_in z1 ?_
  refine zk_let (fun σ4 q4 => ?_)
  have hS2 : IMc σ4 := by rw [q4]; exact IMc.up hσ (zTs a3) (mcon1 (zTge (zTadd (zTadd (zTl zt_11) (zTmul (zTl zt_4) (zTs a1) (by omega) (by omega)) (by omega) (by omega)) (zTs a2) (by omega) (by omega)) (by omega)))
  have hH3 : hi σ σ4 := by rw [q4]; exact hi.up1 hi.rf (zTge (zTadd (zTadd (zTl zt_11) (zTmul (zTl zt_4) (zTs a1) (by omega) (by omega)) (by omega) (by omega)) (zTs a2) (by omega) (by omega)) (by omega)) (zTlt (zTadd (zTadd (zTl zt_11) (zTmul (zTl zt_4) (zTs a1) (by omega) (by omega)) (by omega) (by omega)) (zTs a2) (by omega) (by omega)) (by omega) (by omega))
  exact zk_some ⟨hS2, hH3⟩

set_option maxHeartbeats 400000 in
theorem s_X7_drawn  (σ : zg_S) (hσ : IMc σ)  : zk (f_X7_drawn  σ) (fun r s => IMc s ∧ hi σ s ∧ s 1 0 = σ 1 0) := by
  unfold f_X7_drawn
  refine zk_let (fun y1 ey1 => ?_)
  refine zk_let (fun σ4 q4 => ?_)
  have hS2 : IMc σ4 := by rw [q4]; exact IMc.up hσ (zTs y1) trivial
  have hH3 : hi σ σ4 := by rw [q4]; exact hi.up1 hi.rf (by decide) (by decide)
  have kp5 : σ4 1 0 = σ 1 0 := by rw [q4]; exact zkeepf rfl
  exact zk_some ⟨hS2, hH3, (kp5.trans rfl)⟩

