set_option maxHeartbeats 400000 in
theorem s_X7_mark (a1 : Int32) (a2 : Int32) (a3 : Int32) (σ : zg_S) (hσ : IMc σ)  : zk (f_X7_mark a1 a2 a3 σ) (fun r s => IMc s ∧ hi σ s) := by
  unfold f_X7_mark
  refine zk_call (s_X7_isSheet a1 σ hσ ) (fun r47 σ48 hp1 => ?_)
  obtain ⟨rfl, x2⟩ := hp1
  refine zk_ite (fun h6 => ?_) (fun h6 => ?_)
  · have g7 := zeq h6
    have e8 := zt_0
    exact zk_some ⟨hσ, hi.rf⟩
  · have g9 := zne h6
    have e10 := zt_0
    obtain ⟨_d3, _d4, _d5⟩ := x2.resolve_left h6
    have z11 : zin a1 4 = true := zin_mkT (zTs a1) (by omega) (by omega)
    refine zk_in z11 ?_
    refine zk_ite (fun h12 => ?_) (fun h12 => ?_)
    · have g13 := zle h12
      have j14 := zI64 a2
      have j15 := zI64 0
      have j16 := zI64 ((σ 5 (Int32.toNatClampNeg a1)) - 1)
      have f17 : 0 ≤ (σ 5 (Int32.toNatClampNeg a1)).toInt ∧ (σ 5 (Int32.toNatClampNeg a1)).toInt ≤ 24 := IMf hσ 5 (Int32.toNatClampNeg a1)
      have e18 := zt_1
      have e19 := zsub (σ 5 (Int32.toNatClampNeg a1)) 1 (by omega) (by omega)
      refine zk_call (s_X7_isIn (Int32.toInt64 a2) (Int32.toInt64 0) (Int32.toInt64 ((σ 5 (Int32.toNatClampNeg a1)) - 1)) σ hσ ) (fun r61 σ62 hp20 => ?_)
      obtain ⟨rfl, x21⟩ := hp20
      refine zk_ite (fun h25 => ?_) (fun h25 => ?_)
      · have g26 := zeq h25
        exact zk_some ⟨hσ, hi.rf⟩
      · have g27 := zne h25
        obtain ⟨_d22, _d23, _d24⟩ := x21.resolve_left h25
        refine zk_ite (fun h28 => ?_) (fun h28 => ?_)
        · have g29 := zeq h28
          refine zk_ite (fun h30 => ?_) (fun h30 => ?_)
          · have g31 := zeq h30
            have e32 := zt_m1000000005
            exact zk_some ⟨hσ, hi.rf⟩
          · have g33 := zne h30
            have e34 := zt_m1000000005
            unfold B_X7_mark_63
            refine zk_in z11 ?_
            refine zk_ite (fun h35 => ?_) (fun h35 => ?_)
            · have g36 := zeq h35
              refine zk_ite (fun h37 => ?_) (fun h37 => ?_)
              · have g38 := zeq h37
                unfold B_X7_mark_96
                refine zk_in z11 ?_
                refine zk_ite (fun h39 => ?_) (fun h39 => ?_)
                · have g40 := zeq h39
                  refine zk_let (fun y16 ey41 => ?_)
                  have z42 : zin ((24 * a1) + a2) 96 = true := zin_mkT (zTadd (zTmul (zTl zt_24) (zTs a1) (by omega) (by omega)) (zTs a2) (by omega) (by omega)) (by omega) (by omega)
                  refine zk_in z42 ?_
                  refine zk_let (fun σ22 q45 => ?_)
                  have hS43 : IMc σ22 := by rw [q45]; exact IMc.up hσ (zTs y16) trivial
                  have hH44 : hi σ σ22 := by rw [q45]; exact hi.upo hi.rf rfl
                  exact zk_some ⟨hS43, hH44⟩
                · have g46 := zne h39
                  have z47 : zin ((24 * a1) + a2) 96 = true := zin_mkT (zTadd (zTmul (zTl zt_24) (zTs a1) (by omega) (by omega)) (zTs a2) (by omega) (by omega)) (by omega) (by omega)
                  refine zk_in z47 ?_
                  refine zk_let (fun σ9 q50 => ?_)
                  have hS48 : IMc σ9 := by rw [q50]; exact IMc.up hσ (zTs a3) trivial
                  have hH49 : hi σ σ9 := by rw [q50]; exact hi.upo hi.rf rfl
                  exact zk_some ⟨hS48, hH49⟩
              · have g51 := zne h37
                have j52 := zI64 a3
                have j53 := zI64 (-99999)
                have e54 := zt_m99999
                have j55 := zI64 99999
                have e56 := zt_99999
                refine zk_call (s_X7_isIn (Int32.toInt64 a3) (Int32.toInt64 (-99999)) (Int32.toInt64 99999) σ hσ ) (fun r37 σ38 hp57 => ?_)
                obtain ⟨rfl, x58⟩ := hp57
                refine zk_ite (fun h62 => ?_) (fun h62 => ?_)
                · have g63 := zeq h62
                  exact zk_some ⟨hσ, hi.rf⟩
                · have g64 := zne h62
                  obtain ⟨_d59, _d60, _d61⟩ := x58.resolve_left h62
                  unfold B_X7_mark_96
                  refine zk_in z11 ?_
                  refine zk_ite (fun h65 => ?_) (fun h65 => ?_)
                  · have g66 := zeq h65
                    refine zk_let (fun y16 ey67 => ?_)
                    have z68 : zin ((24 * a1) + a2) 96 = true := zin_mkT (zTadd (zTmul (zTl zt_24) (zTs a1) (by omega) (by omega)) (zTs a2) (by omega) (by omega)) (by omega) (by omega)
                    refine zk_in z68 ?_
                    refine zk_let (fun σ22 q71 => ?_)
                    have hS69 : IMc σ22 := by rw [q71]; exact IMc.up hσ (zTs y16) trivial
                    have hH70 : hi σ σ22 := by rw [q71]; exact hi.upo hi.rf rfl
                    exact zk_some ⟨hS69, hH70⟩
                  · have g72 := zne h65
                    have z73 : zin ((24 * a1) + a2) 96 = true := zin_mkT (zTadd (zTmul (zTl zt_24) (zTs a1) (by omega) (by omega)) (zTs a2) (by omega) (by omega)) (by omega) (by omega)
                    refine zk_in z73 ?_
                    refine zk_let (fun σ9 q76 => ?_)
                    have hS74 : IMc σ9 := by rw [q76]; exact IMc.up hσ (zTs a3) trivial
                    have hH75 : hi σ σ9 := by rw [q76]; exact hi.upo hi.rf rfl
                    exact zk_some ⟨hS74, hH75⟩
            · have g77 := zne h35
              unfold B_X7_mark_96
              refine zk_in z11 ?_
              refine zk_ite (fun h78 => ?_) (fun h78 => ?_)
              · have g79 := zeq h78
                refine zk_let (fun y16 ey80 => ?_)
                have z81 : zin ((24 * a1) + a2) 96 = true := zin_mkT (zTadd (zTmul (zTl zt_24) (zTs a1) (by omega) (by omega)) (zTs a2) (by omega) (by omega)) (by omega) (by omega)
                refine zk_in z81 ?_
                refine zk_let (fun σ22 q84 => ?_)
                have hS82 : IMc σ22 := by rw [q84]; exact IMc.up hσ (zTs y16) trivial
                have hH83 : hi σ σ22 := by rw [q84]; exact hi.upo hi.rf rfl
                exact zk_some ⟨hS82, hH83⟩
              · have g85 := zne h78
                have z86 : zin ((24 * a1) + a2) 96 = true := zin_mkT (zTadd (zTmul (zTl zt_24) (zTs a1) (by omega) (by omega)) (zTs a2) (by omega) (by omega)) (by omega) (by omega)
                refine zk_in z86 ?_
                refine zk_let (fun σ9 q89 => ?_)
                have hS87 : IMc σ9 := by rw [q89]; exact IMc.up hσ (zTs a3) trivial
                have hH88 : hi σ σ9 := by rw [q89]; exact hi.upo hi.rf rfl
                exact zk_some ⟨hS87, hH88⟩
        · have g90 := zne h28
          unfold B_X7_mark_63
          refine zk_in z11 ?_
          refine zk_ite (fun h91 => ?_) (fun h91 => ?_)
          · have g92 := zeq h91
            refine zk_ite (fun h93 => ?_) (fun h93 => ?_)
            · have g94 := zeq h93
              have e95 := zt_m1000000005
              unfold B_X7_mark_96
              refine zk_in z11 ?_
              refine zk_ite (fun h96 => ?_) (fun h96 => ?_)
              · have g97 := zeq h96
                refine zk_let (fun y16 ey98 => ?_)
                have z99 : zin ((24 * a1) + a2) 96 = true := zin_mkT (zTadd (zTmul (zTl zt_24) (zTs a1) (by omega) (by omega)) (zTs a2) (by omega) (by omega)) (by omega) (by omega)
                refine zk_in z99 ?_
                refine zk_let (fun σ22 q102 => ?_)
                have hS100 : IMc σ22 := by rw [q102]; exact IMc.up hσ (zTs y16) trivial
                have hH101 : hi σ σ22 := by rw [q102]; exact hi.upo hi.rf rfl
                exact zk_some ⟨hS100, hH101⟩
              · have g103 := zne h96
                have z104 : zin ((24 * a1) + a2) 96 = true := zin_mkT (zTadd (zTmul (zTl zt_24) (zTs a1) (by omega) (by omega)) (zTs a2) (by omega) (by omega)) (by omega) (by omega)
                refine zk_in z104 ?_
                refine zk_let (fun σ9 q107 => ?_)
                have hS105 : IMc σ9 := by rw [q107]; exact IMc.up hσ (zTs a3) trivial
                have hH106 : hi σ σ9 := by rw [q107]; exact hi.upo hi.rf rfl
                exact zk_some ⟨hS105, hH106⟩
            · have g108 := zne h93
              have e109 := zt_m1000000005
              have j110 := zI64 a3
              have j111 := zI64 (-99999)
              have e112 := zt_m99999
              have j113 := zI64 99999
              have e114 := zt_99999
              refine zk_call (s_X7_isIn (Int32.toInt64 a3) (Int32.toInt64 (-99999)) (Int32.toInt64 99999) σ hσ ) (fun r37 σ38 hp115 => ?_)
              obtain ⟨rfl, x116⟩ := hp115
              refine zk_ite (fun h120 => ?_) (fun h120 => ?_)
              · have g121 := zeq h120
                exact zk_some ⟨hσ, hi.rf⟩
              · have g122 := zne h120
                obtain ⟨_d117, _d118, _d119⟩ := x116.resolve_left h120
                unfold B_X7_mark_96
                refine zk_in z11 ?_
                refine zk_ite (fun h123 => ?_) (fun h123 => ?_)
                · have g124 := zeq h123
                  refine zk_let (fun y16 ey125 => ?_)
                  have z126 : zin ((24 * a1) + a2) 96 = true := zin_mkT (zTadd (zTmul (zTl zt_24) (zTs a1) (by omega) (by omega)) (zTs a2) (by omega) (by omega)) (by omega) (by omega)
                  refine zk_in z126 ?_
                  refine zk_let (fun σ22 q129 => ?_)
                  have hS127 : IMc σ22 := by rw [q129]; exact IMc.up hσ (zTs y16) trivial
                  have hH128 : hi σ σ22 := by rw [q129]; exact hi.upo hi.rf rfl
                  exact zk_some ⟨hS127, hH128⟩
                · have g130 := zne h123
                  have z131 : zin ((24 * a1) + a2) 96 = true := zin_mkT (zTadd (zTmul (zTl zt_24) (zTs a1) (by omega) (by omega)) (zTs a2) (by omega) (by omega)) (by omega) (by omega)
                  refine zk_in z131 ?_
                  refine zk_let (fun σ9 q134 => ?_)
                  have hS132 : IMc σ9 := by rw [q134]; exact IMc.up hσ (zTs a3) trivial
                  have hH133 : hi σ σ9 := by rw [q134]; exact hi.upo hi.rf rfl
                  exact zk_some ⟨hS132, hH133⟩
          · have g135 := zne h91
            unfold B_X7_mark_96
            refine zk_in z11 ?_
            refine zk_ite (fun h136 => ?_) (fun h136 => ?_)
            · have g137 := zeq h136
              refine zk_let (fun y16 ey138 => ?_)
              have z139 : zin ((24 * a1) + a2) 96 = true := zin_mkT (zTadd (zTmul (zTl zt_24) (zTs a1) (by omega) (by omega)) (zTs a2) (by omega) (by omega)) (by omega) (by omega)
              refine zk_in z139 ?_
              refine zk_let (fun σ22 q142 => ?_)
              have hS140 : IMc σ22 := by rw [q142]; exact IMc.up hσ (zTs y16) trivial
              have hH141 : hi σ σ22 := by rw [q142]; exact hi.upo hi.rf rfl
              exact zk_some ⟨hS140, hH141⟩
            · have g143 := zne h136
              have z144 : zin ((24 * a1) + a2) 96 = true := zin_mkT (zTadd (zTmul (zTl zt_24) (zTs a1) (by omega) (by omega)) (zTs a2) (by omega) (by omega)) (by omega) (by omega)
              refine zk_in z144 ?_
              refine zk_let (fun σ9 q147 => ?_)
              have hS145 : IMc σ9 := by rw [q147]; exact IMc.up hσ (zTs a3) trivial
              have hH146 : hi σ σ9 := by rw [q147]; exact hi.upo hi.rf rfl
              exact zk_some ⟨hS145, hH146⟩
    · have g148 := znle h12
      exact zk_some ⟨hσ, hi.rf⟩

set_option maxHeartbeats 400000 in
theorem s_X7_mostOf (a1 : Int32) (σ : zg_S) (hσ : IMc σ)  : zk (f_X7_mostOf a1 σ) (fun r s => σ = s) := by
  unfold f_X7_mostOf
  refine zk_ite (fun h1 => ?_) (fun h1 => ?_)
  · have g2 := zeq h1
    have e3 := zt_0
    exact zk_some rfl
  · have g4 := zne h1
    have e5 := zt_0
    refine zk_ite (fun h6 => ?_) (fun h6 => ?_)
    · have g7 := zeq h6
      have e8 := zt_1
      exact zk_some rfl
    · have g9 := zne h6
      have e10 := zt_1
      refine zk_ite (fun h11 => ?_) (fun h11 => ?_)
      · have g12 := zeq h11
        have e13 := zt_2
        exact zk_some rfl
      · have g14 := zne h11
        have e15 := zt_2
        exact zk_some rfl

