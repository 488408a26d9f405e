set_option maxHeartbeats 400000 in
theorem s_X7_isStall (a1 : Int32) (σ : zg_S) (hσ : IMc σ)  : zk (f_X7_isStall a1 σ) (fun r s => σ = s ∧ (r = 0 ∨ (r = 1 ∧ 0 ≤ a1.toInt ∧ a1.toInt < (σ 1 0).toInt))) := by
  unfold f_X7_isStall
  have j1 := zI64 a1
  have j2 := zI64 0
  have e3 := zt_0
  have j4 := zI64 ((σ 1 0) - 1)
  have f5 : 0 ≤ (σ 1 0).toInt ∧ (σ 1 0).toInt ≤ 9 := IMf hσ 1 0
  have e6 := zt_1
  have e7 := zsub (σ 1 0) 1 (by omega) (by omega)
  refine zk_call (s_X7_isIn (Int32.toInt64 a1) (Int32.toInt64 0) (Int32.toInt64 ((σ 1 0) - 1)) σ hσ ) (fun r1 σ2 hp8 => ?_)
  obtain ⟨rfl, x9⟩ := hp8
  refine zk_ck (x9.imp id And.left) ?_
  rcases x9 with rfl | ⟨rfl, _d11, _d12⟩
  · exact zk_some ⟨rfl, (by first | exact Or.inl rfl | exact Or.inr rfl | assumption | omega | exact Or.inr ⟨rfl, by omega, by omega⟩ | exact Or.inr ⟨by omega, by omega⟩)⟩
  · exact zk_some ⟨rfl, (by first | exact Or.inl rfl | exact Or.inr rfl | assumption | omega | exact Or.inr ⟨rfl, by omega, by omega⟩ | exact Or.inr ⟨by omega, by omega⟩)⟩

set_option maxHeartbeats 400000 in
theorem s_X7_of (a1 : Int32) (a2 : Int32) (σ : zg_S) (hσ : IMc σ) (hp0_ : 0 ≤ a1.toInt) (hp1_ : a1.toInt ≤ 8) (hp2_ : 0 ≤ a2.toInt) (hp3_ : a2.toInt ≤ 3) : zk (f_X7_of a1 a2 σ) (fun r s => σ = s) := by
  unfold f_X7_of
  have z1 : zin ((11 + (4 * a1)) + a2) 3047 = true := zin_mkT (zTadd (zTadd (zTl zt_11) (zTmul (zTl zt_4) (zTs a1) (by omega) (by omega)) (by omega) (by omega)) (zTs a2) (by omega) (by omega)) (by omega) (by omega)
  refine zk_in z1 ?_
  exact zk_some rfl

set_option maxHeartbeats 400000 in
theorem s_X7_isOf (a0 : Int32) (a1 : Int32) (σ : zg_S) (hσ : IMc σ)  : zk (f_X7_isOf a0 a1 σ) (fun r s => σ = s ∧ (r = 0 ∨ r = 1)) := by
  unfold f_X7_isOf
  refine zk_ite (fun h1 => ?_) (fun h1 => ?_)
  · have g2 := zeq h1
    have e3 := zt_1
    exact zk_some ⟨rfl, (by first | exact Or.inl rfl | exact Or.inr rfl | assumption | omega | exact Or.inr ⟨rfl, by omega, by omega⟩ | exact Or.inr ⟨by omega, by omega⟩)⟩
  · have g4 := zne h1
    refine zk_ite (fun h5 => ?_) (fun h5 => ?_)
    · have g6 := zeq h5
      have e7 := zt_0
      have e8 := zt_1
      exact zk_some ⟨rfl, (by first | exact Or.inl rfl | exact Or.inr rfl | assumption | omega | exact Or.inr ⟨rfl, by omega, by omega⟩ | exact Or.inr ⟨by omega, by omega⟩)⟩
    · have g9 := zne h5
      have e10 := zt_0
      refine zk_ite (fun h11 => ?_) (fun h11 => ?_)
      · have g12 := zeq h11
        have e13 := zt_1
        refine zk_ite (fun h14 => ?_) (fun h14 => ?_)
        · have g15 := zeq h14
          have e16 := zt_3
          exact zk_some ⟨rfl, (by first | exact Or.inl rfl | exact Or.inr rfl | assumption | omega | exact Or.inr ⟨rfl, by omega, by omega⟩ | exact Or.inr ⟨by omega, by omega⟩)⟩
        · have g17 := zne h14
          have e18 := zt_3
          unfold B_X7_isOf_19
          refine zk_ite (fun h19 => ?_) (fun h19 => ?_)
          · have g20 := zeq h19
            have e21 := zt_2
            refine zk_ite (fun h22 => ?_) (fun h22 => ?_)
            · have g23 := zeq h22
              have e24 := zt_4
              exact zk_some ⟨rfl, (by first | exact Or.inl rfl | exact Or.inr rfl | assumption | omega | exact Or.inr ⟨rfl, by omega, by omega⟩ | exact Or.inr ⟨by omega, by omega⟩)⟩
            · have g25 := zne h22
              have e26 := zt_4
              exact zk_some ⟨rfl, (by first | exact Or.inl rfl | exact Or.inr rfl | assumption | omega | exact Or.inr ⟨rfl, by omega, by omega⟩ | exact Or.inr ⟨by omega, by omega⟩)⟩
          · have g27 := zne h19
            have e28 := zt_2
            exact zk_some ⟨rfl, (by first | exact Or.inl rfl | exact Or.inr rfl | assumption | omega | exact Or.inr ⟨rfl, by omega, by omega⟩ | exact Or.inr ⟨by omega, by omega⟩)⟩
      · have g29 := zne h11
        have e30 := zt_1
        unfold B_X7_isOf_19
        refine zk_ite (fun h31 => ?_) (fun h31 => ?_)
        · have g32 := zeq h31
          have e33 := zt_2
          refine zk_ite (fun h34 => ?_) (fun h34 => ?_)
          · have g35 := zeq h34
            have e36 := zt_4
            exact zk_some ⟨rfl, (by first | exact Or.inl rfl | exact Or.inr rfl | assumption | omega | exact Or.inr ⟨rfl, by omega, by omega⟩ | exact Or.inr ⟨by omega, by omega⟩)⟩
          · have g37 := zne h34
            have e38 := zt_4
            exact zk_some ⟨rfl, (by first | exact Or.inl rfl | exact Or.inr rfl | assumption | omega | exact Or.inr ⟨rfl, by omega, by omega⟩ | exact Or.inr ⟨by omega, by omega⟩)⟩
        · have g39 := zne h31
          have e40 := zt_2
          exact zk_some ⟨rfl, (by first | exact Or.inl rfl | exact Or.inr rfl | assumption | omega | exact Or.inr ⟨rfl, by omega, by omega⟩ | exact Or.inr ⟨by omega, by omega⟩)⟩

set_option maxHeartbeats 400000 in
theorem s_X7_as (a1 : Int32) (a2 : Int32) (σ : zg_S) (hσ : IMc σ)  : zk (f_X7_as a1 a2 σ) (fun r s => σ = s) := by
  unfold f_X7_as
  refine zk_call (s_X7_isStall a1 σ hσ ) (fun r1 σ2 hp1 => ?_)
  obtain ⟨rfl, x2⟩ := hp1
  have f3 : 0 ≤ (σ 1 0).toInt ∧ (σ 1 0).toInt ≤ 9 := IMf hσ 1 0
  refine zk_ite (fun h7 => ?_) (fun h7 => ?_)
  · have g8 := zeq h7
    have e9 := zt_0
    exact zk_some rfl
  · have g10 := zne h7
    have e11 := zt_0
    obtain ⟨_d4, _d5, _d6⟩ := x2.resolve_left h7
    have j12 := zI64 a2
    have j13 := zI64 0
    have j14 := zI64 5
    have e15 := zt_5
    refine zk_call (s_X7_isIn (Int32.toInt64 a2) (Int32.toInt64 0) (Int32.toInt64 5) σ hσ ) (fun r11 σ12 hp16 => ?_)
    obtain ⟨rfl, x17⟩ := hp16
    refine zk_ite (fun h21 => ?_) (fun h21 => ?_)
    · have g22 := zeq h21
      exact zk_some rfl
    · have g23 := zne h21
      obtain ⟨_d18, _d19, _d20⟩ := x17.resolve_left h21
      refine zk_call (s_X7_of a1 0 σ hσ (by omega) (by omega) (by omega) (by omega)) (fun r20 σ21 hp24 => ?_)
      subst hp24
      refine zk_call (s_X7_isOf r20 a2 σ hσ ) (fun r27 σ28 hp25 => ?_)
      obtain ⟨rfl, x26⟩ := hp25
      refine zk_ite (fun h27 => ?_) (fun h27 => ?_)
      · have g28 := zeq h27
        exact zk_some rfl
      · have g29 := zne h27
        have e30 := zt_3
        refine zk_call (s_X7_of a1 3 σ hσ (by omega) (by omega) (by omega) (by omega)) (fun r37 σ38 hp31 => ?_)
        subst hp31
        exact zk_some rfl

set_option maxHeartbeats 400000 in
theorem s_X7_isSlot (a0 : Int32) (σ : zg_S) (hσ : IMc σ)  : zk (f_X7_isSlot a0 σ) (fun r s => σ = s ∧ (r = 0 ∨ (r = 1 ∧ 0 ≤ a0.toInt ∧ a0.toInt ≤ 4))) := by
  unfold f_X7_isSlot
  have j1 := zI64 a0
  have j2 := zI64 0
  have e3 := zt_0
  have j4 := zI64 4
  have e5 := zt_4
  refine zk_call (s_X7_isIn (Int32.toInt64 a0) (Int32.toInt64 0) (Int32.toInt64 4) σ hσ ) (fun r1 σ2 hp6 => ?_)
  obtain ⟨rfl, x7⟩ := hp6
  refine zk_ck (x7.imp id And.left) ?_
  rcases x7 with rfl | ⟨rfl, _d9, _d10⟩
  · exact zk_some ⟨rfl, (by first | exact Or.inl rfl | exact Or.inr rfl | assumption | omega | exact Or.inr ⟨rfl, by omega, by omega⟩ | exact Or.inr ⟨by omega, by omega⟩)⟩
  · have e11 := zt_1
    exact zk_some ⟨rfl, (by first | exact Or.inl rfl | exact Or.inr rfl | assumption | omega | exact Or.inr ⟨rfl, by omega, by omega⟩ | exact Or.inr ⟨by omega, by omega⟩)⟩

set_option maxHeartbeats 400000 in
theorem s_X7_ask (a1 : Int32) (a2 : Int32) (σ : zg_S) (hσ : IMc σ)  : zk (f_X7_ask a1 a2 σ) (fun r s => σ = s) := by
  unfold f_X7_ask
  refine zk_call (s_X7_isSlot a1 σ hσ ) (fun r1 σ2 hp1 => ?_)
  obtain ⟨rfl, x2⟩ := hp1
  refine zk_ite (fun h6 => ?_) (fun h6 => ?_)
  · have g7 := zeq h6
    have e8 := zt_0
    exact zk_some rfl
  · have g9 := zne h6
    have e10 := zt_0
    obtain ⟨_d3, _d4, _d5⟩ := x2.resolve_left h6
    have j11 := zI64 a2
    have j12 := zI64 0
    have j13 := zI64 5
    have e14 := zt_5
    refine zk_call (s_X7_isIn (Int32.toInt64 a2) (Int32.toInt64 0) (Int32.toInt64 5) σ hσ ) (fun r11 σ12 hp15 => ?_)
    obtain ⟨rfl, x16⟩ := hp15
    refine zk_ite (fun h20 => ?_) (fun h20 => ?_)
    · have g21 := zeq h20
      exact zk_some rfl
    · have g22 := zne h20
      obtain ⟨_d17, _d18, _d19⟩ := x16.resolve_left h20
      have z23 : zin a1 5 = true := zin_mkT (zTs a1) (by omega) (by omega)
      refine zk_in z23 ?_
      refine zk_ite (fun h24 => ?_) (fun h24 => ?_)
      · have g25 := zeq h24
        exact zk_some rfl
      · have g26 := zne h24
        refine zk_ite (fun h27 => ?_) (fun h27 => ?_)
        · have g28 := zeq h27
          have e29 := zt_1
          refine zk_call (s_X7_isOf (σ 8 (Int32.toNatClampNeg a1)) a2 σ hσ ) (fun r28 σ29 hp30 => ?_)
          obtain ⟨rfl, x31⟩ := hp30
          refine zk_ite (fun h32 => ?_) (fun h32 => ?_)
          · have g33 := zeq h32
            exact zk_some rfl
          · have g34 := zne h32
            exact zk_some rfl
        · have g35 := zne h27
          have e36 := zt_1
          exact zk_some rfl

set_option maxHeartbeats 400000 in
theorem s_X7_becomes (a1 : Int32) (a2 : Int32) (σ : zg_S) (hσ : IMc σ) (hp0_ : 2 ≤ a1.toInt) (hp1_ : a1.toInt ≤ 46) : zk (f_X7_becomes a1 a2 σ) (fun r s => IMc s ∧ hi σ s) := by
  unfold f_X7_becomes
  have z1 : zin a1 3047 = true := zin_mkT (zTs a1) (by omega) (by omega)
  refine zk_in z1 ?_
  refine zk_let (fun σ6 q4 => ?_)
  have hS2 : IMc σ6 := by rw [q4]; exact IMc.up hσ (zTs a2) (mcon1 (zTge (zTs a1) (by omega)))
  have hH3 : hi σ σ6 := by rw [q4]; exact hi.up1 hi.rf (zTge (zTs a1) (by omega)) (zTlt (zTs a1) (by omega) (by omega))
  exact zk_some ⟨hS2, hH3⟩

set_option maxHeartbeats 400000 in
theorem s_X7_within (a0 : Int32) (a1 : Int32) (σ : zg_S) (hσ : IMc σ)  : zk (f_X7_within a0 a1 σ) (fun r s => σ = s) := by
  unfold f_X7_within
  refine zk_ite (fun h1 => ?_) (fun h1 => ?_)
  · have g2 := zle h1
    have e3 := zt_0
    refine zk_ite (fun h4 => ?_) (fun h4 => ?_)
    · have g5 := zle h4
      exact zk_some rfl
    · have g6 := znle h4
      exact zk_some rfl
  · have g7 := znle h1
    have e8 := zt_0
    exact zk_some rfl

set_option maxHeartbeats 400000 in
theorem s_X7_holds  (σ : zg_S) (hσ : IMc σ)  : zk (f_X7_holds  σ) (fun r s => IMc s ∧ hi σ s) := by
  unfold f_X7_holds
  refine zk_call (s_X7_within (σ 1 7) (12 - (σ 1 8)) σ hσ ) (fun r1 σ2 hp1 => ?_)
  subst hp1
  refine zk_let (fun σ8 q4 => ?_)
  have hS2 : IMc σ8 := by rw [q4]; exact IMc.up hσ (zTs r1) trivial
  have hH3 : hi σ σ8 := by rw [q4]; exact hi.up1 hi.rf (by decide) (by decide)
  exact zk_some ⟨hS2, hH3⟩

set_option maxHeartbeats 400000 in
theorem s_X7_shadeFrom  (σ : zg_S) (hσ : IMc σ)  : zk (f_X7_shadeFrom  σ) (fun r s => σ = s) := by
  unfold f_X7_shadeFrom
  exact zk_some rfl

set_option maxHeartbeats 400000 in
theorem s_X7_isShaded (a1 : Int32) (σ : zg_S) (hσ : IMc σ) (hp0_ : 0 ≤ a1.toInt) (hp1_ : a1.toInt ≤ 8) : zk (f_X7_isShaded a1 σ) (fun r s => σ = s ∧ (r = 0 ∨ r = 1)) := by
  unfold f_X7_isShaded
  have e1 := zt_1
  refine zk_call (s_X7_of a1 1 σ hσ (by omega) (by omega) (by omega) (by omega)) (fun r1 σ2 hp2 => ?_)
  subst hp2
  refine zk_call (s_X7_shadeFrom σ hσ ) (fun r8 σ9 hp3 => ?_)
  subst hp3
  refine zk_call (s_X7_shadeFrom σ hσ ) (fun r15 σ16 hp4 => ?_)
  subst hp4
  have j5 := zI64 r1
  have j6 := zI64 r8
  have j7 := zI64 ((r15 + (σ 1 8)) - 1)
  refine zk_call (s_X7_isIn (Int32.toInt64 r1) (Int32.toInt64 r8) (Int32.toInt64 ((r15 + (σ 1 8)) - 1)) σ hσ ) (fun r22 σ23 hp8 => ?_)
  obtain ⟨rfl, x9⟩ := hp8
  refine zk_ck (x9.imp id And.left) ?_
  rcases x9 with rfl | ⟨rfl, _d11, _d12⟩
  · have e13 := zt_0
    exact zk_some ⟨rfl, (by first | exact Or.inl rfl | exact Or.inr rfl | assumption | omega | exact Or.inr ⟨rfl, by omega, by omega⟩ | exact Or.inr ⟨by omega, by omega⟩)⟩
  · exact zk_some ⟨rfl, (by first | exact Or.inl rfl | exact Or.inr rfl | assumption | omega | exact Or.inr ⟨rfl, by omega, by omega⟩ | exact Or.inr ⟨by omega, by omega⟩)⟩

set_option maxHeartbeats 400000 in
theorem s_X7_payNow  (σ : zg_S) (hσ : IMc σ)  : zk (f_X7_payNow  σ) (fun r s => σ = s) := by
  unfold f_X7_payNow
  have e1 := zt_0
  unfold L_X7_payNow_4
  refine zl_II (fun (x1 : Int32) (x2 : Int32) (s4_ : zg_S) => σ = s4_ ∧ 0 ≤ x2.toInt ∧ x2.toInt ≤ 9) (fun (x1 : Int32) (x2 : Int32) (s4_ : zg_S) => (9 - x2.toInt).toNat) ?_ zfu 0 0 σ ⟨rfl, (by omega), (by omega)⟩ (by unfold zfu; omega)
  intro rec4_ x1 x2 s4_ hI2 ih4_
  obtain ⟨rfl, i3, i4⟩ := hI2
  unfold B_X7_payNow_4
  refine zk_ite (fun h5 => ?_) (fun h5 => ?_)
  · have g6 := zle h5
    have f7 : 0 ≤ (σ 1 0).toInt ∧ (σ 1 0).toInt ≤ 9 := IMf hσ 1 0
    exact zk_some rfl
  · have g8 := znle h5
    have f9 : 0 ≤ (σ 1 0).toInt ∧ (σ 1 0).toInt ≤ 9 := IMf hσ 1 0
    refine zk_call (s_X7_isShaded x2 σ hσ (by omega) (by omega)) (fun r8 σ9 hp10 => ?_)
    obtain ⟨rfl, x11⟩ := hp10
    refine zk_ite (fun h12 => ?_) (fun h12 => ?_)
    · have g13 := zeq h12
      have e14 := zt_0
      unfold B_X7_payNow_33
      exact ih4_ (x1 + 0) (x2 + 1) σ ⟨rfl, (by rw [zTe (zTadd (zTs x2) (zTl zt_1) (by omega) (by omega))]; omega), (by rw [zTe (zTadd (zTs x2) (zTl zt_1) (by omega) (by omega))]; omega)⟩ (by show (9 - (x2 + 1).toInt).toNat < (9 - x2.toInt).toNat; rw [zTe (zTadd (zTs x2) (zTl zt_1) (by omega) (by omega))]; omega)
    · have g15 := zne h12
      have e16 := zt_0
      have e17 := zt_3
      refine zk_call (s_X7_of x2 3 σ hσ (by omega) (by omega) (by omega) (by omega)) (fun r18 σ19 hp18 => ?_)
      subst hp18
      unfold B_X7_payNow_33
      exact ih4_ (x1 + r18) (x2 + 1) σ ⟨rfl, (by rw [zTe (zTadd (zTs x2) (zTl zt_1) (by omega) (by omega))]; omega), (by rw [zTe (zTadd (zTs x2) (zTl zt_1) (by omega) (by omega))]; omega)⟩ (by show (9 - (x2 + 1).toInt).toNat < (9 - x2.toInt).toNat; rw [zTe (zTadd (zTs x2) (zTl zt_1) (by omega) (by omega))]; omega)

