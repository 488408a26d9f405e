set_option maxHeartbeats 400000 in
theorem s_X0_slant (q0 : Nat) (σ : zg_S) (hσ : IX σ) (hq0 : XL.2.1 q0 = 0) : zk (f_X0_slant q0 σ) (fun r s => σ = s) := by
  unfold f_X0_slant
  exact zk_some rfl

set_option maxHeartbeats 400000 in
theorem s_X0_wouldShade (q0 : Nat) (a1 : Int32) (a2 : Int32) (σ : zg_S) (hσ : IX σ) (hq0 : XL.2.1 q0 = 0) : zk (f_X0_wouldShade q0 a1 a2 σ) (fun r s => σ = s ∧ (r = 0 ∨ r = 1)) := by
  unfold f_X0_wouldShade
  refine zk_call (s_X0_slant q0 σ hσ hq0) (fun r1 σ2 hp1 => ?_)
  subst hp1
  refine zk_ite (fun h2 => ?_) (fun h2 => ?_)
  · have g3 := zlt h2
    have e4 := zt_0
    exact zk_some ⟨rfl, (by first | exact Or.inl rfl | exact Or.inr rfl | assumption | omega | exact Or.inr ⟨rfl, by omega, by omega⟩ | exact Or.inr ⟨by omega, by omega⟩)⟩
  · have g5 := znlt h2
    refine zk_ite (fun h6 => ?_) (fun h6 => ?_)
    · have g7 := zle h6
      have e8 := zt_0
      exact zk_some ⟨rfl, (by first | exact Or.inl rfl | exact Or.inr rfl | assumption | omega | exact Or.inr ⟨rfl, by omega, by omega⟩ | exact Or.inr ⟨by omega, by omega⟩)⟩
    · have g9 := znle h6
      have e10 := zt_1
      exact zk_some ⟨rfl, (by first | exact Or.inl rfl | exact Or.inr rfl | assumption | omega | exact Or.inr ⟨rfl, by omega, by omega⟩ | exact Or.inr ⟨by omega, by omega⟩)⟩

set_option maxHeartbeats 400000 in
theorem s_X0_shades (q0 : Nat) (a1 : Int32) (σ : zg_S) (hσ : IX σ) (hq0 : XL.2.1 q0 = 0) : zk (f_X0_shades q0 a1 σ) (fun r s => σ = s ∧ (r = 0 ∨ r = 1)) := by
  unfold f_X0_shades
  refine zk_call (s_X0_wouldShade q0 (σ q0 6) a1 σ hσ hq0) (fun r1 σ2 hp1 => ?_)
  obtain ⟨rfl, x2⟩ := hp1
  refine zk_ck (by first | assumption | decide | omega | assumption) ?_
  exact zk_some ⟨rfl, (by first | exact Or.inl rfl | exact Or.inr rfl | assumption | omega | exact Or.inr ⟨rfl, by omega, by omega⟩ | exact Or.inr ⟨by omega, by omega⟩)⟩

set_option maxHeartbeats 400000 in
theorem s_X0_firstShaded (q0 : Nat) (σ : zg_S) (hσ : IX σ) (hq0 : XL.2.1 q0 = 0) : zk (f_X0_firstShaded q0 σ) (fun r s => σ = s) := by
  unfold f_X0_firstShaded
  have e1 := zt_0
  unfold L_X0_firstShaded_2
  refine zl_I (fun (x1 : Int32) (s2_ : zg_S) => σ = s2_ ∧ 0 ≤ x1.toInt ∧ x1.toInt ≤ 12) (fun (x1 : Int32) (s2_ : zg_S) => (12 - x1.toInt).toNat) ?_ zfu 0 σ ⟨rfl, (by omega), (by omega)⟩ (by unfold zfu; omega)
  intro rec2_ x1 s2_ hI2 ih2_
  obtain ⟨rfl, i3, i4⟩ := hI2
  unfold B_X0_firstShaded_2
  refine zk_ite (fun h5 => ?_) (fun h5 => ?_)
  · have g6 := zle h5
    have e7 := zt_12
    exact zk_some rfl
  · have g8 := znle h5
    have e9 := zt_12
    refine zk_call (s_X0_shades q0 x1 σ hσ hq0) (fun r4 σ5 hp10 => ?_)
    obtain ⟨rfl, x11⟩ := hp10
    refine zk_ite (fun h12 => ?_) (fun h12 => ?_)
    · have g13 := zeq h12
      have e14 := zt_0
      exact ih2_ (x1 + 1) σ ⟨rfl, (by rw [zTe (zTadd (zTs x1) (zTl zt_1) (by omega) (by omega))]; omega), (by rw [zTe (zTadd (zTs x1) (zTl zt_1) (by omega) (by omega))]; omega)⟩ (by show (12 - (x1 + 1).toInt).toNat < (12 - x1.toInt).toNat; rw [zTe (zTadd (zTs x1) (zTl zt_1) (by omega) (by omega))]; omega)
    · have g15 := zne h12
      have e16 := zt_0
      exact zk_some rfl

set_option maxHeartbeats 400000 in
theorem s_X0_hauledTo (q0 : Nat) (a1 : Int32) (σ : zg_S) (hσ : IX σ) (hq0 : XL.2.1 q0 = 0) : zk (f_X0_hauledTo q0 a1 σ) (fun r s => σ = s) := by
  unfold f_X0_hauledTo
  refine zk_ite (fun h1 => ?_) (fun h1 => ?_)
  · have g2 := zeq h1
    have e3 := zt_1
    refine zk_let (fun y3 ey4 => ?_)
    exact zk_some rfl
  · have g5 := zne h1
    have e6 := zt_1
    refine zk_ite (fun h7 => ?_) (fun h7 => ?_)
    · have g8 := zeq h7
      have e9 := zt_2
      refine zk_call (s_X0_lastFirst q0 σ hσ hq0) (fun r9 σ10 hp10 => ?_)
      subst hp10
      refine zk_let (fun y16 ey11 => ?_)
      have g12 := zmin ey11
      exact zk_some rfl
    · have g13 := zne h7
      have e14 := zt_2
      exact zk_some rfl

set_option maxHeartbeats 400000 in
theorem s_X4_shadeLoss (q0 : Nat) (σ : zg_S) (hσ : IX σ) (hq0 : XL.2.1 q0 = 4) : zk (f_X4_shadeLoss q0 σ) (fun r s => σ = s) := by
  unfold f_X4_shadeLoss
  refine zk_ite (fun h1 => ?_) (fun h1 => ?_)
  · have g2 := zeq h1
    have e3 := zt_4
    exact zk_some rfl
  · have g4 := zne h1
    have e5 := zt_4
    exact zk_some rfl

set_option maxHeartbeats 400000 in
theorem s_X0_heat (q0 : Nat) (σ : zg_S) (hσ : IX σ) (hq0 : XL.2.1 q0 = 0) : zk (f_X0_heat q0 σ) (fun r s => σ = s) := by
  unfold f_X0_heat
  refine zk_let (fun y1 ey1 => ?_)
  exact zk_some rfl

set_option maxHeartbeats 400000 in
theorem s_X5_joined (a0 : Int32) (a1 : Int32) (a2 : Int32) (σ : zg_S) (hσ : IX σ)  : zk (f_X5_joined a0 a1 a2 σ) (fun r s => σ = s) := by
  unfold f_X5_joined
  refine zk_ite (fun h1 => ?_) (fun h1 => ?_)
  · have g2 := zeq h1
    have e3 := zt_38
    refine zk_ite (fun h4 => ?_) (fun h4 => ?_)
    · have g5 := zeq h4
      have e6 := zt_0
      exact zk_some rfl
    · have g7 := zne h4
      have e8 := zt_0
      refine zk_ite (fun h9 => ?_) (fun h9 => ?_)
      · have g10 := zeq h9
        exact zk_some rfl
      · have g11 := zne h9
        exact zk_some rfl
  · have g12 := zne h1
    have e13 := zt_38
    refine zk_ite (fun h14 => ?_) (fun h14 => ?_)
    · have g15 := zeq h14
      have e16 := zt_42
      exact zk_some rfl
    · have g17 := zne h14
      have e18 := zt_42
      refine zk_ite (fun h19 => ?_) (fun h19 => ?_)
      · have g20 := zeq h19
        have e21 := zt_43
        exact zk_some rfl
      · have g22 := zne h19
        have e23 := zt_43
        refine zk_ite (fun h24 => ?_) (fun h24 => ?_)
        · have g25 := zeq h24
          have e26 := zt_45
          exact zk_some rfl
        · have g27 := zne h24
          have e28 := zt_45
          refine zk_ite (fun h29 => ?_) (fun h29 => ?_)
          · have g30 := zeq h29
            have e31 := zt_60
            refine zk_ite (fun h32 => ?_) (fun h32 => ?_)
            · have g33 := zle h32
              exact zk_some rfl
            · have g34 := znle h32
              exact zk_some rfl
          · have g35 := zne h29
            have e36 := zt_60
            refine zk_ite (fun h37 => ?_) (fun h37 => ?_)
            · have g38 := zeq h37
              have e39 := zt_61
              refine zk_ite (fun h40 => ?_) (fun h40 => ?_)
              · have g41 := zeq h40
                exact zk_some rfl
              · have g42 := zne h40
                exact zk_some rfl
            · have g43 := zne h37
              have e44 := zt_61
              refine zk_ite (fun h45 => ?_) (fun h45 => ?_)
              · have g46 := zeq h45
                have e47 := zt_62
                refine zk_ite (fun h48 => ?_) (fun h48 => ?_)
                · have g49 := zle h48
                  exact zk_some rfl
                · have g50 := znle h48
                  exact zk_some rfl
              · have g51 := zne h45
                have e52 := zt_62
                refine zk_ite (fun h53 => ?_) (fun h53 => ?_)
                · have g54 := zeq h53
                  have e55 := zt_124
                  refine zk_ite (fun h56 => ?_) (fun h56 => ?_)
                  · have g57 := zeq h56
                    have e58 := zt_0
                    refine zk_ite (fun h59 => ?_) (fun h59 => ?_)
                    · have g60 := zeq h59
                      exact zk_some rfl
                    · have g61 := zne h59
                      exact zk_some rfl
                  · have g62 := zne h56
                    have e63 := zt_0
                    exact zk_some rfl
                · have g64 := zne h53
                  have e65 := zt_124
                  refine zk_ite (fun h66 => ?_) (fun h66 => ?_)
                  · have g67 := zeq h66
                    have e68 := zt_0
                    exact zk_some rfl
                  · have g69 := zne h66
                    have e70 := zt_0
                    refine zk_nz (by first | assumption | omega) ?_
                    exact zk_some rfl

