set_option maxHeartbeats 400000 in
theorem s_X4_isOf (q0 : Nat) (a1 : Int32) (σ : zg_S) (hσ : IX σ) (hq0 : XL.2.1 q0 = 4) : zk (f_X4_isOf q0 a1 σ) (fun r s => σ = s ∧ (r = 0 ∨ r = 1)) := by
  unfold f_X4_isOf
  have e1 := zt_0
  unfold L_X4_isOf_7
  refine zl_II (fun (x2 : Int32) (x3 : Int32) (s7_ : zg_S) => σ = s7_ ∧ 0 ≤ x3.toInt ∧ x3.toInt ≤ 6) (fun (x2 : Int32) (x3 : Int32) (s7_ : zg_S) => (6 - x3.toInt).toNat) ?_ zfu (σ q0 0) 0 σ ⟨rfl, (by omega), (by omega)⟩ (by unfold zfu; omega)
  intro rec7_ x2 x3 s7_ hI2 ih7_
  obtain ⟨rfl, i3, i4⟩ := hI2
  unfold B_X4_isOf_7
  refine zk_ite (fun h5 => ?_) (fun h5 => ?_)
  · have g6 := zle h5
    have e7 := zt_6
    have e8 := zt_0
    exact zk_some ⟨rfl, (by first | exact Or.inl rfl | exact Or.inr rfl | assumption | omega | exact Or.inr ⟨rfl, by omega, by omega⟩ | exact Or.inr ⟨by omega, by omega⟩)⟩
  · have g9 := znle h5
    have e10 := zt_6
    have e11 := zt_0
    have e12 := zt_5
    refine zk_call (s_X6_within x2 0 5 σ hσ ) (fun r4 σ5 hp13 => ?_)
    obtain ⟨rfl, x14⟩ := hp13
    refine zk_ite (fun h18 => ?_) (fun h18 => ?_)
    · have g19 := zeq h18
      exact zk_some ⟨rfl, (by first | exact Or.inl rfl | exact Or.inr rfl | assumption | omega | exact Or.inr ⟨rfl, by omega, by omega⟩ | exact Or.inr ⟨by omega, by omega⟩)⟩
    · have g20 := zne h18
      obtain ⟨_d15, _d16, _d17⟩ := x14.resolve_left h18
      refine zk_ite (fun h21 => ?_) (fun h21 => ?_)
      · have g22 := zeq h21
        have e23 := zt_1
        exact zk_some ⟨rfl, (by first | exact Or.inl rfl | exact Or.inr rfl | assumption | omega | exact Or.inr ⟨rfl, by omega, by omega⟩ | exact Or.inr ⟨by omega, by omega⟩)⟩
      · have g24 := zne h21
        have z25 : zin x2 6 = true := zin_mkT (zTs x2) (by omega) (by omega)
        refine zk_in z25 ?_
        refine zk_let (fun y19 ey26 => ?_)
        exact ih7_ y19 (x3 + 1) σ ⟨rfl, (by rw [zTe (zTadd (zTs x3) (zTl zt_1) (by omega) (by omega))]; omega), (by rw [zTe (zTadd (zTs x3) (zTl zt_1) (by omega) (by omega))]; omega)⟩ (by show (6 - (x3 + 1).toInt).toNat < (6 - x3.toInt).toNat; rw [zTe (zTadd (zTs x3) (zTl zt_1) (by omega) (by omega))]; omega)

set_option maxHeartbeats 400000 in
theorem s_X4_worth (q0 : Nat) (σ : zg_S) (hσ : IX σ) (hq0 : XL.2.1 q0 = 4) : zk (f_X4_worth q0 σ) (fun r s => σ = s) := by
  unfold f_X4_worth
  refine zk_ite (fun h1 => ?_) (fun h1 => ?_)
  · have g2 := zeq h1
    have e3 := zt_1
    exact zk_some rfl
  · have g4 := zne h1
    have e5 := zt_1
    refine zk_ite (fun h6 => ?_) (fun h6 => ?_)
    · have g7 := zeq h6
      have e8 := zt_2
      exact zk_some rfl
    · have g9 := zne h6
      have e10 := zt_2
      refine zk_ite (fun h11 => ?_) (fun h11 => ?_)
      · have g12 := zeq h11
        have e13 := zt_3
        exact zk_some rfl
      · have g14 := zne h11
        have e15 := zt_3
        refine zk_ite (fun h16 => ?_) (fun h16 => ?_)
        · have g17 := zeq h16
          have e18 := zt_4
          exact zk_some rfl
        · have g19 := zne h16
          have e20 := zt_4
          refine zk_ite (fun h21 => ?_) (fun h21 => ?_)
          · have g22 := zeq h21
            have e23 := zt_5
            exact zk_some rfl
          · have g24 := zne h21
            have e25 := zt_5
            exact zk_some rfl

theorem s_X6_isStall (a1 : Int32) (σ : zg_S) (hσ : IX σ) : zk (f_X6_isStall a1 σ) (fun r s => σ = s ∧ (r = 0 ∨ (r = 1 ∧ 0 ≤ a1.toInt ∧ a1.toInt < (σ 153 3).toInt))) := by
  unfold f_X6_isStall
  have f : 0 ≤ (σ 153 3).toInt ∧ (σ 153 3).toInt ≤ 9 := IXf hσ xk_153 3
  have e1 := zt_1
  have e0 := zt_0
  have e := zsub (σ 153 3) 1 (by omega) (by omega)
  refine zk_call (s_X6_within a1 0 ((σ 153 3) - 1) σ hσ) (fun r s hp => ?_)
  obtain ⟨rfl, x⟩ := hp
  rcases x with rfl | ⟨rfl, d1, d2⟩
  · exact zk_ck (Or.inl rfl) (zk_some ⟨rfl, Or.inl rfl⟩)
  · exact zk_ck (Or.inr rfl) (zk_some ⟨rfl, Or.inr ⟨rfl, by omega, by omega⟩⟩)

set_option maxHeartbeats 400000 in
theorem s_X6_as (a1 : Int32) (a2 : Int32) (σ : zg_S) (hσ : IX σ)  : zk (f_X6_as a1 a2 σ) (fun r s => σ = s) := by
  unfold f_X6_as
  refine zk_call (s_X6_isStall a1 σ hσ ) (fun r1 σ2 hp1 => ?_)
  obtain ⟨rfl, x2⟩ := hp1
  have f3 : 0 ≤ (σ 153 3).toInt ∧ (σ 153 3).toInt ≤ 9 := IXf hσ xk_153 3
  refine zk_ite (fun h7 => ?_) (fun h7 => ?_)
  · have g8 := zeq h7
    have e9 := zt_0
    exact zk_some rfl
  · have g10 := zne h7
    have e11 := zt_0
    obtain ⟨_d4, _d5, _d6⟩ := x2.resolve_left h7
    have e12 := zt_5
    refine zk_call (s_X6_within a2 0 5 σ hσ ) (fun r11 σ12 hp13 => ?_)
    obtain ⟨rfl, x14⟩ := hp13
    refine zk_ite (fun h18 => ?_) (fun h18 => ?_)
    · have g19 := zeq h18
      exact zk_some rfl
    · have g20 := zne h18
      obtain ⟨_d15, _d16, _d17⟩ := x14.resolve_left h18
      have z21 : zin a1 9 = true := zin_mkT (zTs a1) (by omega) (by omega)
      refine zk_in z21 ?_
      refine zk_call (s_X4_isOf (154 + 2 + (Int32.toNatClampNeg a1)) a2 σ hσ (xS xk_154 (zIn z21).2)) (fun r25 σ26 hp22 => ?_)
      obtain ⟨rfl, x23⟩ := hp22
      refine zk_ite (fun h24 => ?_) (fun h24 => ?_)
      · have g25 := zeq h24
        exact zk_some rfl
      · have g26 := zne h24
        exact zk_some rfl

theorem s_X6_isSlot (a0 : Int32) (σ : zg_S) (hσ : IX σ) : zk (f_X6_isSlot a0 σ) (fun r s => σ = s ∧ (r = 0 ∨ (r = 1 ∧ 0 ≤ a0.toInt ∧ a0.toInt ≤ 4))) := by
  unfold f_X6_isSlot
  have e1 := zt_4
  have e0 := zt_0
  refine zk_call (s_X6_within a0 0 4 σ hσ) (fun r s hp => ?_)
  obtain ⟨rfl, x⟩ := hp
  rcases x with rfl | ⟨rfl, d1, d2⟩
  · exact zk_ck (Or.inl rfl) (zk_some ⟨rfl, Or.inl rfl⟩)
  · exact zk_ck (Or.inr rfl) (zk_some ⟨rfl, Or.inr ⟨rfl, by omega, by omega⟩⟩)

set_option maxHeartbeats 400000 in
theorem s_X6_ask (a1 : Int32) (a2 : Int32) (σ : zg_S) (hσ : IX σ)  : zk (f_X6_ask a1 a2 σ) (fun r s => σ = s) := by
  unfold f_X6_ask
  refine zk_call (s_X6_isSlot a1 σ hσ ) (fun r1 σ2 hp1 => ?_)
  obtain ⟨rfl, x2⟩ := hp1
  refine zk_ite (fun h6 => ?_) (fun h6 => ?_)
  · have g7 := zeq h6
    have e8 := zt_0
    exact zk_some rfl
  · have g9 := zne h6
    have e10 := zt_0
    obtain ⟨_d3, _d4, _d5⟩ := x2.resolve_left h6
    have e11 := zt_5
    refine zk_call (s_X6_within a2 0 5 σ hσ ) (fun r11 σ12 hp12 => ?_)
    obtain ⟨rfl, x13⟩ := hp12
    refine zk_ite (fun h17 => ?_) (fun h17 => ?_)
    · have g18 := zeq h17
      exact zk_some rfl
    · have g19 := zne h17
      obtain ⟨_d14, _d15, _d16⟩ := x13.resolve_left h17
      have z20 : zin a1 5 = true := zin_mkT (zTs a1) (by omega) (by omega)
      refine zk_in z20 ?_
      have e21 := zt_1
      refine zk_call (s_X3_refuses (61 + 4 * (Int32.toNatClampNeg a1)) 1 σ hσ (xO (zIn z20).2)) (fun r23 σ24 hp22 => ?_)
      subst hp22
      refine zk_ite (fun h23 => ?_) (fun h23 => ?_)
      · have g24 := zeq h23
        refine zk_call (s_X4_isOf ((61 + 4 * (Int32.toNatClampNeg a1)) + 1) a2 σ hσ (xO1 (xO (zIn z20).2))) (fun r36 σ37 hp25 => ?_)
        obtain ⟨rfl, x26⟩ := hp25
        refine zk_ite (fun h27 => ?_) (fun h27 => ?_)
        · have g28 := zeq h27
          exact zk_some rfl
        · have g29 := zne h27
          refine zk_call (s_X4_worth ((61 + 4 * (Int32.toNatClampNeg a1)) + 1) σ hσ (xO1 (xO (zIn z20).2))) (fun r46 σ47 hp30 => ?_)
          subst hp30
          exact zk_some rfl
      · have g31 := zne h23
        exact zk_some rfl

set_option maxHeartbeats 400000 in
theorem s_X6_back  (σ : zg_S) (hσ : IX σ)  : zk (f_X6_back  σ) (fun r s => IX s) := by
  unfold f_X6_back
  refine zk_ite (fun h1 => ?_) (fun h1 => ?_)
  · have g2 := zeq h1
    have e3 := zt_0
    exact zk_some hσ
  · have g4 := zne h1
    have e5 := zt_0
    have e6 := zt_153
    have e7 := zt_177
    refine zk_call (s_X0_takeOver 153 177 σ hσ xk_153 xk_177) (fun r3 σ4 hp8 => ?_)
    have hS9 := hp8
    exact zk_some hS9

set_option maxHeartbeats 400000 in
theorem s_X6_thinkOn (a1 : Int32) (σ : zg_S) (hσ : IX σ) (hp0_ : a1.toInt ≤ 100) : zk (f_X6_thinkOn a1 σ) (fun r s => IX s) := by
  unfold f_X6_thinkOn
  have e1 := zt_0
  unfold L_X6_thinkOn_2
  refine zl_I (fun (x2 : Int32) (s2_ : zg_S) => IX s2_ ∧ 0 ≤ x2.toInt ∧ x2.toInt ≤ 100) (fun (x2 : Int32) (s2_ : zg_S) => (100 - x2.toInt).toNat) ?_ zfu 0 σ ⟨hσ, (by omega), (by omega)⟩ (by unfold zfu; omega)
  intro rec2_ x2 s2_ hI2 ih2_
  obtain ⟨hS3, i4, i5⟩ := hI2
  unfold B_X6_thinkOn_2
  refine zk_ite (fun h6 => ?_) (fun h6 => ?_)
  · have g7 := zle h6
    exact zk_some hS3
  · have g8 := znle h6
    have e9 := zt_165
    refine zk_call (s_X0_hauling 165 s2_ hS3 xk_165) (fun r4 σ5 hp10 => ?_)
    have hS11 := hp10
    refine zk_call (s_X0_passHour 165 r4 σ5 hS11 xk_165) (fun r11 σ12 hp12 => ?_)
    have hS13 := hp12
    exact ih2_ (x2 + 1) σ12 ⟨hS13, (by rw [zTe (zTadd (zTs x2) (zTl zt_1) (by omega) (by omega))]; omega), (by rw [zTe (zTadd (zTs x2) (zTl zt_1) (by omega) (by omega))]; omega)⟩ (by show (100 - (x2 + 1).toInt).toNat < (100 - x2.toInt).toNat; rw [zTe (zTadd (zTs x2) (zTl zt_1) (by omega) (by omega))]; omega)

set_option maxHeartbeats 400000 in
theorem s_X6_behind (a1 : Int32) (a2 : Int32) (σ : zg_S) (hσ : IX σ)  : zk (f_X6_behind a1 a2 σ) (fun r s => IX s) := by
  unfold f_X6_behind
  have e1 := zt_0
  have e2 := zt_100
  refine zk_call (s_X6_within a1 0 100 σ hσ ) (fun r1 σ2 hp3 => ?_)
  obtain ⟨rfl, x4⟩ := hp3
  refine zk_ite (fun h8 => ?_) (fun h8 => ?_)
  · have g9 := zeq h8
    exact zk_some hσ
  · have g10 := zne h8
    obtain ⟨_d5, _d6, _d7⟩ := x4.resolve_left h8
    have e11 := zt_3
    refine zk_call (s_X6_within a2 0 3 σ hσ ) (fun r11 σ12 hp12 => ?_)
    obtain ⟨rfl, x13⟩ := hp12
    refine zk_ite (fun h17 => ?_) (fun h17 => ?_)
    · have g18 := zeq h17
      exact zk_some hσ
    · have g19 := zne h17
      obtain ⟨_d14, _d15, _d16⟩ := x13.resolve_left h17
      have e20 := zt_165
      have e21 := zt_153
      refine zk_call (s_X0_takeOver 165 153 σ hσ xk_165 xk_153) (fun r20 σ21 hp22 => ?_)
      have hS23 := hp22
      refine zk_call (s_X6_thinkOn a1 σ21 hS23 (by omega)) (fun r27 σ28 hp24 => ?_)
      have hS25 := hp24
      refine zk_ite (fun h26 => ?_) (fun h26 => ?_)
      · have g27 := zeq h26
        exact zk_some hS25
      · have g28 := zne h26
        refine zk_ite (fun h29 => ?_) (fun h29 => ?_)
        · have g30 := zeq h29
          have e31 := zt_1
          exact zk_some hS25
        · have g32 := zne h29
          have e33 := zt_1
          refine zk_ite (fun h34 => ?_) (fun h34 => ?_)
          · have g35 := zeq h34
            have e36 := zt_2
            exact zk_some hS25
          · have g37 := zne h34
            have e38 := zt_2
            exact zk_some hS25

theorem s_G_th : ∀ (d : Nat) (z0 z1 z2 : Int32) (σ : zg_S), IX σ → 0 ≤ z0.toInt → z0.toInt ≤ 5 → 6 - z0.toInt ≤ d → zk (G_th d 0 z0 z1 z2 σ) (fun _ s => IX s) := by
  have e0 := zt_0
  have e1 := zt_1
  have e3 := zt_3
  have e5 := zt_5
  intro d
  induction d with
  | zero => intro z0 z1 z2 σ _ h0 h5 hd; omega
  | succ d ih =>
    intro z0 z1 z2 σ hσ h0 h5 hd
    show zk (f_X6_tryHaulings (G_th d) z0 z1 z2 σ) _
    unfold f_X6_tryHaulings
    refine zk_ite (fun _ => zk_some hσ) (fun _ => ?_)
    refine zk_ite (fun _ => ?_) (fun _ => zk_some hσ)
    have z : zin z0 6 = true := zin_mk (by omega) (by omega)
    refine zk_in z ?_
    have b41 : ∀ s : zg_S, IX s → zk (B_X6_tryHaulings_41 (G_th d) z0 z1 z2 (81 + 12 * (Int32.toNatClampNeg z0)) s) (fun _ s => IX s) := by
      intro s hs
      unfold B_X6_tryHaulings_41
      refine zk_let (fun s1 q1 => zk_let (fun s2 q2 => zk_some ?_))
      rw [q2, q1]
      exact IX.up (IX.up hs xk_0 trivial) xk_0 trivial
    refine zk_ite (fun _ => ?_) (fun _ => zk_some hσ)
    refine zk_ite (fun _ => b41 σ hσ) (fun _ => ?_)
    refine zk_ite (fun _ => b41 σ hσ) (fun hn => ?_)
    have g5 := zne hn
    unfold L_X6_tryHaulings_59
    refine zl_NI (fun (q : Nat) (x : Int32) (s : zg_S) => IX s ∧ XL.2.1 q = 0 ∧ 0 ≤ x.toInt ∧ x.toInt ≤ 3) (fun (q : Nat) (x : Int32) (s : zg_S) => (3 - x.toInt).toNat) ?_ zfu _ _ _ ⟨hσ, xA (zIn z).2, by omega, by omega⟩ (by unfold zfu; omega)
    intro rec q x s hI ihl
    obtain ⟨hs, hq, i1, i2⟩ := hI
    unfold B_X6_tryHaulings_59
    refine zk_ite (fun _ => zk_some hs) (fun h3 => ?_)
    have g3 := znle h3
    have ea := zadd z0 1 (by omega) (by omega)
    have z1 : zin (z0 + 1) 6 = true := zin_mk (by omega) (by omega)
    refine zk_in z1 ?_
    refine zk_call (s_X0_takeOver _ q s hs (xA (zIn z1).2) hq) (fun r1 s1 h1 => ?_)
    refine zk_call (s_X0_passHour _ x s1 h1 (xA (zIn z1).2)) (fun r2 s2 h2 => ?_)
    refine zk_call (ih (z0 + 1) _ _ s2 h2 (by omega) (by omega) (by omega)) (fun r3 s3 h3 => ?_)
    have ex := zadd x 1 (by omega) (by omega)
    exact ihl q (x + 1) s3 ⟨h3, hq, by omega, by omega⟩ (by omega)

set_option maxHeartbeats 400000 in
theorem s_X6_best (a1 : Int32) (a2 : Int32) (σ : zg_S) (hσ : IX σ)  : zk (f_X6_best a1 a2 σ) (fun r s => IX s) := by
  unfold f_X6_best
  have e1 := zt_1
  have e2 := zt_5
  refine zk_call (s_X6_within a1 1 5 σ hσ ) (fun r1 σ2 hp3 => ?_)
  obtain ⟨rfl, x4⟩ := hp3
  refine zk_ite (fun h8 => ?_) (fun h8 => ?_)
  · have g9 := zeq h8
    have e10 := zt_0
    exact zk_some hσ
  · have g11 := zne h8
    have e12 := zt_0
    obtain ⟨_d5, _d6, _d7⟩ := x4.resolve_left h8
    refine zk_call (s_X6_within a2 0 1 σ hσ ) (fun r11 σ12 hp13 => ?_)
    obtain ⟨rfl, x14⟩ := hp13
    refine zk_ite (fun h18 => ?_) (fun h18 => ?_)
    · have g19 := zeq h18
      exact zk_some hσ
    · have g20 := zne h18
      obtain ⟨_d15, _d16, _d17⟩ := x14.resolve_left h18
      refine zk_let (fun σ20 q22 => ?_)
      have hS21 : IX σ20 := by rw [q22]; exact IX.up hσ xk_0 trivial
      refine zk_let (fun σ26 q24 => ?_)
      have hS23 : IX σ26 := by rw [q24]; exact IX.up hS21 xk_0 trivial
      have e25 := zt_81
      have e26 := zt_153
      refine zk_call (s_X0_takeOver 81 153 σ26 hS23 xk_81 xk_153) (fun r32 σ33 hp27 => ?_)
      have hS28 := hp27
      refine zk_call (s_G_th 8 0 a1 0 σ33 hS28 (by omega) (by omega) (by omega)) (fun r39 σ40 hS30 => ?_)
      refine zk_ite (fun h31 => ?_) (fun h31 => ?_)
      · have g32 := zeq h31
        exact zk_some hS30
      · have g33 := zne h31
        exact zk_some hS30

set_option maxHeartbeats 400000 in
theorem s_X6_book (a1 : Int32) (σ : zg_S) (hσ : IX σ)  : zk (f_X6_book a1 σ) (fun r s => σ = s) := by
  unfold f_X6_book
  refine zk_ite (fun h1 => ?_) (fun h1 => ?_)
  · have g2 := zeq h1
    have e3 := zt_0
    exact zk_some rfl
  · have g4 := zne h1
    have e5 := zt_0
    refine zk_ite (fun h6 => ?_) (fun h6 => ?_)
    · have g7 := zeq h6
      have e8 := zt_1
      exact zk_some rfl
    · have g9 := zne h6
      have e10 := zt_1
      refine zk_ite (fun h11 => ?_) (fun h11 => ?_)
      · have g12 := zeq h11
        have e13 := zt_2
        exact zk_some rfl
      · have g14 := zne h11
        have e15 := zt_2
        refine zk_ite (fun h16 => ?_) (fun h16 => ?_)
        · have g17 := zeq h16
          have e18 := zt_3
          have e19 := zt_153
          refine zk_call (s_X0_allGoods 153 σ hσ xk_153) (fun r12 σ13 hp20 => ?_)
          subst hp20
          exact zk_some rfl
        · have g21 := zne h16
          have e22 := zt_3
          exact zk_some rfl

