set_option maxHeartbeats 400000 in
theorem s_X7_hours (a1 : Int32) (σ : zg_S) (hσ : IMc σ) (hW : WF (σ 1)) : zk (f_X7_hours a1 σ) (fun r s => IMc s ∧ hi σ s) := by
  unfold f_X7_hours
  have j1 := zI64 a1
  have j2 := zI64 1
  have e3 := zt_1
  have j4 := zI64 100
  have e5 := zt_100
  refine zk_call (s_X7_isIn (Int32.toInt64 a1) (Int32.toInt64 1) (Int32.toInt64 100) σ hσ ) (fun r16 σ17 hp6 => ?_)
  obtain ⟨rfl, x7⟩ := hp6
  refine zk_ite (fun h11 => ?_) (fun h11 => ?_)
  · have g12 := zeq h11
    have e13 := zt_0
    exact zk_some ⟨hσ, hi.rf⟩
  · have g14 := zne h11
    have e15 := zt_0
    obtain ⟨_d8, _d9, _d10⟩ := x7.resolve_left h11
    unfold L_X7_hours_24
    refine zl_II (fun (x2 : Int32) (x3 : Int32) (s24_ : zg_S) => IMc s24_ ∧ hi σ s24_ ∧ 0 ≤ x3.toInt ∧ x3.toInt ≤ 100) (fun (x2 : Int32) (x3 : Int32) (s24_ : zg_S) => (100 - x3.toInt).toNat) ?_ zfu (σ 1 4) 0 σ ⟨hσ, hi.rf, (by omega), (by omega)⟩ (by unfold zfu; omega)
    intro rec24_ x2 x3 s24_ hI16 ih24_
    obtain ⟨hS17, hH18, i19, i20⟩ := hI16
    unfold B_X7_hours_24
    refine zk_ite (fun h21 => ?_) (fun h21 => ?_)
    · have g22 := zle h21
      unfold B_X7_hours_51
      exact zk_some ⟨hS17, hH18⟩
    · have g23 := znle h21
      refine zk_ite (fun h24 => ?_) (fun h24 => ?_)
      · have g25 := zle h24
        have e26 := zt_9999
        unfold B_X7_hours_51
        exact zk_some ⟨hS17, hH18⟩
      · have g27 := znle h24
        have e28 := zt_9999
        refine zk_call (s_X7_goesOn s24_ hS17 (WF.hi hW hH18)) (fun r7 σ8 hp29 => ?_)
        obtain ⟨hS30, hH31⟩ := hp29
        exact ih24_ x2 (x3 + 1) σ8 ⟨hS30, (hH18.tr hH31), (by rw [zTe (zTadd (zTs x3) (zTl zt_1) (by omega) (by omega))]; omega), (by rw [zTe (zTadd (zTs x3) (zTl zt_1) (by omega) (by omega))]; omega)⟩ (by show (100 - (x3 + 1).toInt).toNat < (100 - x3.toInt).toNat; rw [zTe (zTadd (zTs x3) (zTl zt_1) (by omega) (by omega))]; omega)

set_option maxHeartbeats 400000 in
theorem s_X7_isText (a1 : Int32) (σ : zg_S) (hσ : IMc σ)  : zk (f_X7_isText a1 σ) (fun r s => σ = s ∧ (r = 0 ∨ (r = 1 ∧ 0 ≤ a1.toInt ∧ a1.toInt < (σ 1 1).toInt))) := by
  unfold f_X7_isText
  have j1 := zI64 a1
  have j2 := zI64 0
  have e3 := zt_0
  have j4 := zI64 ((σ 1 1) - 1)
  have f5 : 0 ≤ (σ 1 1).toInt ∧ (σ 1 1).toInt ≤ 14 := IMf hσ 1 1
  have e6 := zt_1
  have e7 := zsub (σ 1 1) 1 (by omega) (by omega)
  refine zk_call (s_X7_isIn (Int32.toInt64 a1) (Int32.toInt64 0) (Int32.toInt64 ((σ 1 1) - 1)) σ hσ ) (fun r1 σ2 hp8 => ?_)
  obtain ⟨rfl, x9⟩ := hp8
  refine zk_ck (x9.imp id And.left) ?_
  rcases x9 with rfl | ⟨rfl, _d11, _d12⟩
  · exact zk_some ⟨rfl, (by first | exact Or.inl rfl | exact Or.inr rfl | assumption | omega | exact Or.inr ⟨rfl, by omega, by omega⟩ | exact Or.inr ⟨by omega, by omega⟩)⟩
  · exact zk_some ⟨rfl, (by first | exact Or.inl rfl | exact Or.inr rfl | assumption | omega | exact Or.inr ⟨rfl, by omega, by omega⟩ | exact Or.inr ⟨by omega, by omega⟩)⟩

set_option maxHeartbeats 400000 in
theorem s_X7_item (a1 : Int32) (a2 : Int32) (σ : zg_S) (hσ : IMc σ)  : zk (f_X7_item a1 a2 σ) (fun r s => σ = s) := by
  unfold f_X7_item
  refine zk_call (s_X7_isSlot a1 σ hσ ) (fun r1 σ2 hp1 => ?_)
  obtain ⟨rfl, x2⟩ := hp1
  refine zk_ite (fun h6 => ?_) (fun h6 => ?_)
  · have g7 := zeq h6
    have e8 := zt_0
    exact zk_some rfl
  · have g9 := zne h6
    have e10 := zt_0
    obtain ⟨_d3, _d4, _d5⟩ := x2.resolve_left h6
    have z11 : zin a1 5 = true := zin_mkT (zTs a1) (by omega) (by omega)
    refine zk_in z11 ?_
    refine zk_ite (fun h12 => ?_) (fun h12 => ?_)
    · have g13 := zeq h12
      have e14 := zt_2
      have j15 := zI64 a2
      have j16 := zI64 0
      have j17 := zI64 ((σ 10 (Int32.toNatClampNeg a1)) - 1)
      have f18 : 0 ≤ (σ 10 (Int32.toNatClampNeg a1)).toInt ∧ (σ 10 (Int32.toNatClampNeg a1)).toInt ≤ 24 := IMf hσ 10 (Int32.toNatClampNeg a1)
      have e19 := zt_1
      have e20 := zsub (σ 10 (Int32.toNatClampNeg a1)) 1 (by omega) (by omega)
      refine zk_call (s_X7_isIn (Int32.toInt64 a2) (Int32.toInt64 0) (Int32.toInt64 ((σ 10 (Int32.toNatClampNeg a1)) - 1)) σ hσ ) (fun r15 σ16 hp21 => ?_)
      obtain ⟨rfl, x22⟩ := hp21
      refine zk_ite (fun h26 => ?_) (fun h26 => ?_)
      · have g27 := zeq h26
        exact zk_some rfl
      · have g28 := zne h26
        obtain ⟨_d23, _d24, _d25⟩ := x22.resolve_left h26
        have z29 : zin ((24 * a1) + a2) 120 = true := zin_mkT (zTadd (zTmul (zTl zt_24) (zTs a1) (by omega) (by omega)) (zTs a2) (by omega) (by omega)) (by omega) (by omega)
        refine zk_in z29 ?_
        refine zk_let (fun y27 ey30 => ?_)
        refine zk_ite (fun h31 => ?_) (fun h31 => ?_)
        · have g32 := zeq h31
          have e33 := zt_m1000000005
          exact zk_some rfl
        · have g34 := zne h31
          have e35 := zt_m1000000005
          exact zk_some rfl
    · have g36 := zne h12
      have e37 := zt_2
      refine zk_ite (fun h38 => ?_) (fun h38 => ?_)
      · have g39 := zeq h38
        exact zk_some rfl
      · have g40 := zne h38
        exact zk_some rfl

set_option maxHeartbeats 400000 in
theorem s_X7_worth (a1 : Int32) (σ : zg_S) (hσ : IMc σ) (hp0_ : 0 ≤ a1.toInt) (hp1_ : a1.toInt ≤ 8) : zk (f_X7_worth a1 σ) (fun r s => σ = s) := by
  unfold f_X7_worth
  have e1 := zt_3
  refine zk_call (s_X7_of a1 3 σ hσ (by omega) (by omega) (by omega) (by omega)) (fun r1 σ2 hp2 => ?_)
  subst hp2
  have e3 := zt_0
  refine zk_call (s_X7_of a1 0 σ hσ (by omega) (by omega) (by omega) (by omega)) (fun r10 σ11 hp4 => ?_)
  subst hp4
  refine zk_ite (fun h5 => ?_) (fun h5 => ?_)
  · have g6 := zeq h5
    have e7 := zt_1
    exact zk_some rfl
  · have g8 := zne h5
    have e9 := zt_1
    refine zk_ite (fun h10 => ?_) (fun h10 => ?_)
    · have g11 := zeq h10
      have e12 := zt_2
      exact zk_some rfl
    · have g13 := zne h10
      have e14 := zt_2
      refine zk_ite (fun h15 => ?_) (fun h15 => ?_)
      · have g16 := zeq h15
        exact zk_some rfl
      · have g17 := zne h15
        refine zk_ite (fun h18 => ?_) (fun h18 => ?_)
        · have g19 := zeq h18
          have e20 := zt_4
          exact zk_some rfl
        · have g21 := zne h18
          have e22 := zt_4
          refine zk_ite (fun h23 => ?_) (fun h23 => ?_)
          · have g24 := zeq h23
            have e25 := zt_5
            exact zk_some rfl
          · have g26 := zne h23
            have e27 := zt_5
            exact zk_some rfl

