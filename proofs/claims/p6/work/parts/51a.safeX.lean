
theorem ej_coder (q0 : Nat) (σ : zg_S) : f_J0_coder_7d493 q0 σ = some (0, σ) := by
  unfold f_J0_coder_7d493
  exact if_pos (by decide)
theorem ej_len (q0 : Nat) (h : q0 < 6) (σ : zg_S) : f_J0_length_8abf5 q0 σ = some (nI (zz_len.getD q0 0), σ) := by
  have e : ∀ q, q < 6 → nI (zz_len.getD q 0) >>> ((0 : Int32) &&& 31) = nI (zz_len.getD q 0) := by decide
  unfold f_J0_length_8abf5
  rw [ej_coder]
  show some (nI (zz_len.getD q0 0) >>> ((0 : Int32) &&& 31), σ) = _
  rw [e q0 h]
theorem zlen4 : ∀ q, q < 6 → zz_len.getD q 0 ≤ 4 := by decide
theorem s_J0_length_8abf5 (q0 : Nat) (σ : zg_S) (hσ : IX σ) (hq0 : q0 < 6) : zk (f_J0_length_8abf5 q0 σ) (fun r s => σ = s ∧ (r.toInt = (zz_len.getD q0 0 : Int) ∧ zz_len.getD q0 0 ≤ 4)) := ⟨_, _, ej_len q0 hq0 σ, rfl, nI_toInt (by have := zlen4 q0 hq0; omega), zlen4 q0 hq0⟩
theorem s_J0_charAt_5068e (q0 : Nat) (a1 : Int32) (σ : zg_S) (hσ : IX σ) (hq0 : q0 < 6) (h0 : 0 ≤ a1.toInt) (h1 : a1.toInt < (zz_len.getD q0 0 : Int)) : zk (f_J0_charAt_5068e q0 a1 σ) (fun r s => σ = s) := by
  have e0 : (0 : Int32).toInt = 0 := by decide
  have l4 := zlen4 q0 hq0
  have c1 : ¬ a1 < 0 := fun z => by have := zlt z; omega
  have c2 : a1 < nI (zz_len.getD q0 0) := Int32.lt_iff_toInt_lt.mpr (by rw [nI_toInt (by omega)]; exact h1)
  have z : zin a1 (zz_len.getD q0 0) = true := zin_mk h0 h1
  have j := (zIn z).2
  have cb : ∀ q, q < 6 → ∀ j, j < 4 → vp_nar .char ((Int32.toUInt32 (((zz_byt.getD q []).getD j 0) &&& 255) % 65536).toInt32) = (Int32.toUInt32 (((zz_byt.getD q []).getD j 0) &&& 255) % 65536).toInt32 := by decide +kernel
  have cc := cb q0 hq0 a1.toNatClampNeg (by omega)
  unfold f_J0_charAt_5068e f_J0_isLatin1_aae02
  refine zk_call (P := fun r s => r = 1 ∧ σ = s) ⟨1, σ, rfl, rfl, rfl⟩ (fun r s hp => ?_)
  obtain ⟨rfl, rfl⟩ := hp
  refine zk_ite (fun h => absurd h (by decide)) (fun _ => ?_)
  refine zk_call (P := fun r s => vp_nar .char r = r ∧ σ = s) ?_ (fun r s hp => zk_ck hp.1 (zk_some hp.2))
  unfold f_J1_charAt_3b067
  refine zk_call (P := fun r s => σ = s) ?_ (fun r s hp => ?_)
  · unfold f_J0_checkIndex_df160
    refine zk_call (P := fun r s => σ = s) ?_ (fun r s hp => zk_some hp)
    unfold f_J3_checkIndex_8e157
    exact zk_ite (fun h => absurd h c1) (fun _ => zk_ite (fun _ => zk_some rfl) (fun h => absurd c2 h))
  · subst hp
    exact zk_in z (zk_ck cc (zk_some ⟨cc, rfl⟩))
theorem s_J1_indexOfChar_4cfef (q0 : Nat) (a1 a2 a3 : Int32) (σ : zg_S) (hσ : IX σ) (hq0 : q0 < 6) (h0 : a2.toInt = 0) (h3 : a3.toInt ≤ (zz_len.getD q0 0 : Int)) : zk (f_J1_indexOfChar_4cfef q0 a1 a2 a3 σ) (fun r s => σ = s) := by
  have l4 := zlen4 q0 hq0
  have e1 : (1 : Int32).toInt = 1 := by decide
  unfold f_J1_indexOfChar_4cfef L_J1_indexOfChar_4cfef_7
  refine zl_II (fun x4 x5 s => σ = s ∧ 0 ≤ x5.toInt ∧ x5.toInt ≤ 5) (fun x4 x5 s => (5 - x5.toInt).toNat) ?_ zfu _ _ _ ⟨rfl, by omega, by omega⟩ (by unfold zfu; omega)
  intro rec x4 x5 s hI ih
  obtain ⟨rfl, i1, i2⟩ := hI
  unfold B_J1_indexOfChar_4cfef_7
  refine zk_ite (fun h => zk_some rfl) (fun h => ?_)
  have g := znle h
  refine zk_in (zin_mk i1 (by omega)) ?_
  refine zk_ite (fun _ => zk_some rfl) (fun _ => ?_)
  have e := zadd x5 1 (by omega) (by omega)
  exact ih x4 (x5 + 1) _ ⟨rfl, by omega, by omega⟩ (by omega)
theorem s_J0_indexOf_0f7a4 (q0 : Nat) (a1 : Int32) (σ : zg_S) (hσ : IX σ) (hq0 : q0 < 6) : zk (f_J0_indexOf_0f7a4 q0 a1 σ) (fun r s => σ = s) := by
  have l4 := zlen4 q0 hq0
  unfold f_J0_indexOf_0f7a4
  refine zk_call (P := fun r s => σ = s) ?_ (fun r s hp => zk_some hp)
  unfold f_J0_indexOf_7cf53 f_J0_isLatin1_aae02
  refine zk_call (P := fun r s => r = 1 ∧ σ = s) ⟨1, σ, rfl, rfl, rfl⟩ (fun r s hp => ?_)
  obtain ⟨rfl, rfl⟩ := hp
  refine zk_ite (fun h => absurd h (by decide)) (fun _ => ?_)
  refine zk_call (s_J0_length_8abf5 q0 σ hσ hq0) (fun r s hp => ?_)
  obtain ⟨rfl, hr, _⟩ := hp
  refine zk_call (P := fun r s => σ = s) ?_ (fun r s hp => zk_some hp)
  unfold f_J1_indexOf_4cfef
  refine zk_call (P := fun r s => σ = s) ?_ (fun r1 s hp => ?_)
  · unfold f_J1_canEncode_9a6ad
    exact zk_ite (fun _ => zk_some rfl) (fun _ => zk_ite (fun _ => zk_some rfl) (fun _ => zk_some rfl))
  · subst hp
    refine zk_ite (fun _ => zk_some rfl) (fun _ => ?_)
    refine zk_let (fun y ey => ?_)
    have g := zmin ey
    refine zk_ite (fun _ => ?_) (fun _ => zk_some rfl)
    exact zk_call (s_J1_indexOfChar_4cfef q0 a1 _ y σ hσ hq0 (by decide) (by omega)) (fun r s hp => zk_some hp)











set_option maxHeartbeats 400000 in
theorem s_J6_bitCount_0f7a4 (a0 : Int32) (σ : zg_S) (hσ : IX σ)  : zk (f_J6_bitCount_0f7a4 a0 σ) (fun r s => σ = s) := by
  unfold f_J6_bitCount_0f7a4
  refine zk_let (fun y1 ey1 => ?_)
  refine zk_let (fun y6 ey2 => ?_)
  refine zk_let (fun y11 ey3 => ?_)
  refine zk_let (fun y16 ey4 => ?_)
  refine zk_let (fun y21 ey5 => ?_)
  exact zk_some rfl

set_option maxHeartbeats 400000 in
theorem s_X0_allGoods (q0 : Nat) (σ : zg_S) (hσ : IX σ) (hq0 : XL.2.1 q0 = 0) : zk (f_X0_allGoods q0 σ) (fun r s => σ = s) := by
  unfold f_X0_allGoods
  have e1 := zt_0
  unfold L_X0_allGoods_4
  refine zl_II (fun (x1 : Int32) (x2 : Int32) (s4_ : zg_S) => σ = s4_ ∧ 0 ≤ x2.toInt ∧ x2.toInt ≤ 9) (fun (x1 : Int32) (x2 : Int32) (s4_ : zg_S) => (9 - x2.toInt).toNat) ?_ zfu 0 0 σ ⟨rfl, (by omega), (by omega)⟩ (by unfold zfu; omega)
  intro rec4_ x1 x2 s4_ hI2 ih4_
  obtain ⟨rfl, i3, i4⟩ := hI2
  unfold B_X0_allGoods_4
  refine zk_ite (fun h5 => ?_) (fun h5 => ?_)
  · have g6 := zle h5
    have f7 : 0 ≤ (σ q0 3).toInt ∧ (σ q0 3).toInt ≤ 9 := IXf hσ hq0 3
    exact zk_some rfl
  · have g8 := znle h5
    have f9 : 0 ≤ (σ q0 3).toInt ∧ (σ q0 3).toInt ≤ 9 := IXf hσ hq0 3
    have z10 : zin x2 9 = true := zin_mkT (zTs x2) (by omega) (by omega)
    refine zk_in z10 ?_
    refine zk_let (fun y7 ey11 => ?_)
    exact ih4_ y7 (x2 + 1) σ ⟨rfl, (by rw [zTe (zTadd (zTs x2) (zTl zt_1) (by omega) (by omega))]; omega), (by rw [zTe (zTadd (zTs x2) (zTl zt_1) (by omega) (by omega))]; omega)⟩ (by show (9 - (x2 + 1).toInt).toNat < (9 - x2.toInt).toNat; rw [zTe (zTadd (zTs x2) (zTl zt_1) (by omega) (by omega))]; omega)

set_option maxHeartbeats 400000 in
theorem s_X0_draw (q0 : Nat) (σ : zg_S) (hσ : IX σ) (hq0 : XL.2.1 q0 = 0) : zk (f_X0_draw q0 σ) (fun r s => IX s) := by
  unfold f_X0_draw
  refine zk_let (fun y1 ey1 => ?_)
  refine zk_let (fun σ4 q3 => ?_)
  have hS2 : IX σ4 := by rw [q3]; exact IX.up hσ hq0 trivial
  exact zk_some hS2

set_option maxHeartbeats 400000 in
theorem s_X0_lastFirst (q0 : Nat) (σ : zg_S) (hσ : IX σ) (hq0 : XL.2.1 q0 = 0) : zk (f_X0_lastFirst q0 σ) (fun r s => σ = s) := by
  unfold f_X0_lastFirst
  exact zk_some rfl

theorem s_X6_held (a0 a1 a2 : Int32) (σ : zg_S) (hσ : IX σ) : zk (f_X6_held a0 a1 a2 σ) (fun r s => σ = s ∧ (a1.toInt ≤ a2.toInt → a1.toInt ≤ r.toInt ∧ r.toInt ≤ a2.toInt)) := by
  unfold f_X6_held
  refine zk_let (fun y ey => zk_some ⟨rfl, fun h => ?_⟩)
  subst ey
  by_cases c1 : a2 < a0
  · rw [if_pos c1]
    by_cases c2 : a1 < a2
    · rw [if_pos c2]; have := zlt c2; omega
    · rw [if_neg c2]; omega
  · rw [if_neg c1]
    have g1 := znlt c1
    by_cases c2 : a1 < a0
    · rw [if_pos c2]; have := zlt c2; omega
    · rw [if_neg c2]; omega

set_option maxHeartbeats 400000 in
theorem s_X0_blow (q0 : Nat) (σ : zg_S) (hσ : IX σ) (hq0 : XL.2.1 q0 = 0) : zk (f_X0_blow q0 σ) (fun r s => IX s) := by
  unfold f_X0_blow
  refine zk_call (s_X0_draw q0 σ hσ hq0) (fun r1 σ2 hp1 => ?_)
  have hS2 := hp1
  refine zk_ite (fun h3 => ?_) (fun h3 => ?_)
  · have g4 := zlt h3
    refine zk_call (s_X0_draw q0 σ2 hS2 hq0) (fun r10 σ11 hp5 => ?_)
    have hS6 := hp5
    refine zk_call (s_X0_lastFirst q0 σ11 hS6 hq0) (fun r19 σ20 hp7 => ?_)
    subst hp7
    have e8 := zt_0
    refine zk_call (s_X6_held ((σ11 q0 6) + ((r10 - r10 / 3 * 3) - 1)) 0 r19 σ11 hS6 ) (fun r26 σ27 hp9 => ?_)
    obtain ⟨rfl, x10⟩ := hp9
    refine zk_let (fun σ33 q12 => ?_)
    have hS11 : IX σ33 := by rw [q12]; exact IX.up hS6 hq0 trivial
    refine zk_ite (fun h13 => ?_) (fun h13 => ?_)
    · have g14 := zeq h13
      exact zk_some hS11
    · have g15 := zne h13
      refine zk_let (fun σ42 q17 => ?_)
      have hS16 : IX σ42 := by rw [q17]; exact IX.up hS11 hq0 trivial
      exact zk_some hS16
  · have g18 := znlt h3
    exact zk_some hS2

set_option maxHeartbeats 400000 in
theorem s_X6_within (a0 : Int32) (a1 : Int32) (a2 : Int32) (σ : zg_S) (hσ : IX σ)  : zk (f_X6_within a0 a1 a2 σ) (fun r s => σ = s ∧ (r = 0 ∨ (r = 1 ∧ a1.toInt ≤ a0.toInt ∧ a0.toInt ≤ a2.toInt))) := by
  unfold f_X6_within
  refine zk_ite (fun h1 => ?_) (fun h1 => ?_)
  · have g2 := zlt h1
    have e3 := zt_0
    exact zk_some ⟨rfl, (by first | exact Or.inl rfl | exact Or.inr rfl | assumption | omega | exact Or.inr ⟨rfl, by omega, by omega⟩ | exact Or.inr ⟨by omega, by omega⟩)⟩
  · have g4 := znlt h1
    refine zk_ite (fun h5 => ?_) (fun h5 => ?_)
    · have g6 := zlt h5
      have e7 := zt_0
      exact zk_some ⟨rfl, (by first | exact Or.inl rfl | exact Or.inr rfl | assumption | omega | exact Or.inr ⟨rfl, by omega, by omega⟩ | exact Or.inr ⟨by omega, by omega⟩)⟩
    · have g8 := znlt h5
      have e9 := zt_1
      exact zk_some ⟨rfl, (by first | exact Or.inl rfl | exact Or.inr rfl | assumption | omega | exact Or.inr ⟨rfl, by omega, by omega⟩ | exact Or.inr ⟨by omega, by omega⟩)⟩

theorem s_X2_hasPlace (q0 : Nat) (a1 : Int32) (σ : zg_S) (hσ : IX σ) (hq0 : XL.2.1 q0 = 2) : zk (f_X2_hasPlace q0 a1 σ) (fun r s => σ = s ∧ (r = 0 ∨ (r = 1 ∧ 0 ≤ a1.toInt ∧ a1.toInt < (σ q0 1).toInt))) := by
  unfold f_X2_hasPlace
  have f : 0 ≤ (σ q0 1).toInt ∧ (σ q0 1).toInt ≤ 24 := IXf hσ hq0 1
  have e1 := zt_1
  have e0 := zt_0
  have e := zsub (σ q0 1) 1 (by omega) (by omega)
  refine zk_call (s_X6_within a1 0 ((σ q0 1) - 1) σ hσ) (fun r s hp => ?_)
  obtain ⟨rfl, x⟩ := hp
  rcases x with rfl | ⟨rfl, d1, d2⟩
  · exact zk_ck (Or.inl rfl) (zk_some ⟨rfl, Or.inl rfl⟩)
  · exact zk_ck (Or.inr rfl) (zk_some ⟨rfl, Or.inr ⟨rfl, by omega, by omega⟩⟩)

set_option maxHeartbeats 400000 in
theorem s_X2_hasNumber (q0 : Nat) (a1 : Int32) (σ : zg_S) (hσ : IX σ) (hq0 : XL.2.1 q0 = 2) : zk (f_X2_hasNumber q0 a1 σ) (fun r s => σ = s ∧ (r = 0 ∨ (r = 1 ∧ 0 ≤ a1.toInt ∧ a1.toInt < (σ q0 1).toInt))) := by
  unfold f_X2_hasNumber
  refine zk_call (s_X2_hasPlace q0 a1 σ hσ hq0) (fun r1 σ2 hp1 => ?_)
  obtain ⟨rfl, x2⟩ := hp1
  have f3 : 0 ≤ (σ q0 1).toInt ∧ (σ q0 1).toInt ≤ 24 := IXf hσ hq0 1
  refine zk_ite (fun h7 => ?_) (fun h7 => ?_)
  · have g8 := zeq h7
    have e9 := zt_0
    exact zk_some ⟨rfl, (by first | exact Or.inl rfl | exact Or.inr rfl | assumption | omega | exact Or.inr ⟨rfl, by omega, by omega⟩ | exact Or.inr ⟨by omega, by omega⟩)⟩
  · have g10 := zne h7
    have e11 := zt_0
    obtain ⟨_d4, _d5, _d6⟩ := x2.resolve_left h7
    have z12 : zin a1 24 = true := zin_mkT (zTs a1) (by omega) (by omega)
    refine zk_in z12 ?_
    refine zk_ite (fun h13 => ?_) (fun h13 => ?_)
    · have g14 := zeq h13
      have e15 := zt_m1000000005
      exact zk_some ⟨rfl, (by first | exact Or.inl rfl | exact Or.inr rfl | assumption | omega | exact Or.inr ⟨rfl, by omega, by omega⟩ | exact Or.inr ⟨by omega, by omega⟩)⟩
    · have g16 := zne h13
      have e17 := zt_m1000000005
      have e18 := zt_1
      exact zk_some ⟨rfl, (by first | exact Or.inl rfl | exact Or.inr rfl | assumption | omega | exact Or.inr ⟨rfl, by omega, by omega⟩ | exact Or.inr ⟨by omega, by omega⟩)⟩

set_option maxHeartbeats 400000 in
theorem s_X0_differencesFrom (q0 : Nat) (q1 : Nat) (σ : zg_S) (hσ : IX σ) (hq0 : XL.2.1 q0 = 0) (hq1 : XL.2.1 q1 = 2) : zk (f_X0_differencesFrom q0 q1 σ) (fun r s => σ = s) := by
  unfold f_X0_differencesFrom
  have e1 := zt_0
  unfold L_X0_differencesFrom_4
  refine zl_II (fun (x2 : Int32) (x3 : Int32) (s4_ : zg_S) => σ = s4_ ∧ 0 ≤ x3.toInt ∧ x3.toInt ≤ 9) (fun (x2 : Int32) (x3 : Int32) (s4_ : zg_S) => (9 - x3.toInt).toNat) ?_ zfu 0 0 σ ⟨rfl, (by omega), (by omega)⟩ (by unfold zfu; omega)
  intro rec4_ x2 x3 s4_ hI2 ih4_
  obtain ⟨rfl, i3, i4⟩ := hI2
  unfold B_X0_differencesFrom_4
  refine zk_ite (fun h5 => ?_) (fun h5 => ?_)
  · have g6 := zle h5
    have f7 : 0 ≤ (σ q0 3).toInt ∧ (σ q0 3).toInt ≤ 9 := IXf hσ hq0 3
    exact zk_some rfl
  · have g8 := znle h5
    have f9 : 0 ≤ (σ q0 3).toInt ∧ (σ q0 3).toInt ≤ 9 := IXf hσ hq0 3
    refine zk_call (s_X2_hasNumber q1 x3 σ hσ hq1) (fun r6 σ7 hp10 => ?_)
    obtain ⟨rfl, x11⟩ := hp10
    have f12 : 0 ≤ (σ q1 1).toInt ∧ (σ q1 1).toInt ≤ 24 := IXf hσ hq1 1
    refine zk_ite (fun h16 => ?_) (fun h16 => ?_)
    · have g17 := zeq h16
      have e18 := zt_0
      unfold B_X0_differencesFrom_42
      exact ih4_ x2 (x3 + 1) σ ⟨rfl, (by rw [zTe (zTadd (zTs x3) (zTl zt_1) (by omega) (by omega))]; omega), (by rw [zTe (zTadd (zTs x3) (zTl zt_1) (by omega) (by omega))]; omega)⟩ (by show (9 - (x3 + 1).toInt).toNat < (9 - x3.toInt).toNat; rw [zTe (zTadd (zTs x3) (zTl zt_1) (by omega) (by omega))]; omega)
    · have g19 := zne h16
      have e20 := zt_0
      obtain ⟨_d13, _d14, _d15⟩ := x11.resolve_left h16
      have z21 : zin x3 9 = true := zin_mkT (zTs x3) (by omega) (by omega)
      refine zk_in z21 ?_
      have z22 : zin x3 24 = true := zin_mkT (zTs x3) (by omega) (by omega)
      refine zk_in z22 ?_
      refine zk_let (fun y22 ey23 => ?_)
      unfold B_X0_differencesFrom_42
      exact ih4_ (x2 + y22) (x3 + 1) σ ⟨rfl, (by rw [zTe (zTadd (zTs x3) (zTl zt_1) (by omega) (by omega))]; omega), (by rw [zTe (zTadd (zTs x3) (zTl zt_1) (by omega) (by omega))]; omega)⟩ (by show (9 - (x3 + 1).toInt).toNat < (9 - x3.toInt).toNat; rw [zTe (zTadd (zTs x3) (zTl zt_1) (by omega) (by omega))]; omega)

theorem s_X5_takeOver (q0 q1 : Nat) (σ : zg_S) (hσ : IX σ) (hq0 : XL.2.1 q0 = 5) (hq1 : XL.2.1 q1 = 5) : zk (f_X5_takeOver q0 q1 σ) (fun r s => IX s ∧ s q1 0 = σ q1 0 ∧ ∀ p k, XL.2.1 p = 0 → s p k = σ p k) := by
  unfold f_X5_takeOver
  refine zk_let (fun s1 e1 => ?_)
  have h1 : IX s1 := by rw [e1]; exact IX.up hσ hq0 trivial
  refine zk_let (fun s2 e2 => ?_)
  have h2 : IX s2 := by rw [e2]; exact IX.up h1 hq0 trivial
  refine zk_let (fun s3 e3 => ?_)
  have h3 : IX s3 := by rw [e3]; exact IX.up h2 hq0 (IXf h2 hq1 2)
  refine zk_ck (by decide) (zk_let (fun s4 e4 => zk_some ⟨?_, ?_, ?_⟩))
  · rw [e4]; exact IX.row h3 (xT1 hq0)
  · rw [e4]
    refine (zkeepr (xT1 hq0) hq1 rfl).trans ?_
    rw [e3]
    refine (zkeepk rfl).trans ?_
    rw [e2]
    refine (zkeepk rfl).trans ?_
    rw [e1]
    exact zself
  · intro p k hp
    rw [e4]
    refine (zkeepr (xT1 hq0) hp rfl).trans ?_
    rw [e3]
    refine (zkeep hq0 hp rfl).trans ?_
    rw [e2]
    refine (zkeep hq0 hp rfl).trans ?_
    rw [e1]
    exact zkeep hq0 hp rfl

theorem s_X0_enact (q0 q1 : Nat) (σ : zg_S) (hσ : IX σ) (hq0 : XL.2.1 q0 = 0) (hq1 : XL.2.1 q1 = 5) : zk (f_X0_enact q0 q1 σ) (fun r s => IX s) := by
  unfold f_X0_enact
  have f4 : 0 ≤ (σ q0 4).toInt ∧ (σ q0 4).toInt ≤ 14 := IXf hσ hq0 4
  have e0 := zt_0
  have e1 := zt_1
  have e2 := zt_2
  have e14 := zt_14
  refine zk_ite (fun _ => zk_some hσ) (fun h => ?_)
  have g := znle h
  refine zk_call (s_X6_within (σ q1 0) 0 2 σ hσ) (fun r s hp => ?_)
  obtain ⟨rfl, x⟩ := hp
  refine zk_ite (fun _ => zk_some hσ) (fun hn => ?_)
  obtain ⟨-, d1, d2⟩ := x.resolve_left hn
  have z : zin (σ q0 4) 14 = true := zin_mk (by omega) (by omega)
  refine zk_in z ?_
  refine zk_call (s_X5_takeOver _ q1 σ hσ (xT (zIn z).2) hq1) (fun r1 s1 hp => ?_)
  obtain ⟨h1, k0, kB⟩ := hp
  have z3 : zin (s1 q1 0) 3 = true := by rw [k0]; exact zin_mk (by omega) (by omega)
  refine zk_in z3 ?_
  refine zk_let (fun s2 q2 => ?_)
  have h2 : IX s2 := by rw [q2]; exact IX.up h1 (xB2 hq0) trivial
  have k4 : s2 q0 4 = σ q0 4 := by rw [q2]; exact (zkeep (xB2 hq0) hq0 rfl).trans (kB q0 4 hq0)
  have g4 := congrArg Int32.toInt k4
  have ea := zadd (s2 q0 4) 1 (by omega) (by omega)
  exact zk_let (fun s3 q3 => zk_some (by rw [q3]; exact IX.up h2 hq0 ⟨by omega, by omega⟩))

