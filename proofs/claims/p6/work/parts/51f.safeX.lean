theorem s_X1_isWord (q1 : Nat) (σ : zg_S) (hσ : IX σ) (hq1 : q1 < 6) : zk (f_X1_isWord q1 σ) (fun r s => σ = s ∧ (r = 0 ∨ r = 1)) := by
  unfold f_X1_isWord
  have e0 := zt_0
  have e1 := zt_1
  refine zk_ite (fun _ => ?_) (fun _ => zk_some ⟨rfl, Or.inl rfl⟩)
  refine zk_call (s_J0_length_8abf5 q1 σ hσ hq1) (fun r s hp => ?_)
  obtain ⟨rfl, hr, h4⟩ := hp
  refine zk_ite (fun _ => ?_) (fun _ => zk_some ⟨rfl, Or.inl rfl⟩)
  unfold L_X1_isWord_28
  refine zl_I (fun x s => σ = s ∧ 0 ≤ x.toInt ∧ x.toInt ≤ 4) (fun x s => (4 - x.toInt).toNat) ?_ zfu _ _ ⟨rfl, by omega, by omega⟩ (by unfold zfu; omega)
  intro rec x s hI ih
  obtain ⟨rfl, i1, i2⟩ := hI
  unfold B_X1_isWord_28
  refine zk_call (s_J0_length_8abf5 q1 σ hσ hq1) (fun r1 s hp => ?_)
  obtain ⟨rfl, hr1, _⟩ := hp
  refine zk_ite (fun _ => zk_some ⟨rfl, Or.inr rfl⟩) (fun hl => ?_)
  have gl := znle hl
  refine zk_call (s_X1_sortAt ((σ 7 4) + x) σ hσ) (fun r2 s hp => ?_)
  obtain ⟨rfl, hs⟩ := hp
  refine zk_ite (fun h1 => ?_) (fun _ => zk_some ⟨rfl, Or.inl rfl⟩)
  have hn : ¬ r2 = 0 := fun z => by rw [z] at h1; exact absurd h1 (by decide)
  have hs := hs.resolve_left hn
  have f2 : 0 ≤ (σ 7 2).toInt ∧ (σ 7 2).toInt ≤ 96 := IXf hσ xk_7 2
  refine zk_in (zin_mk hs.1 (by omega)) ?_
  refine zk_call (s_J0_charAt_5068e q1 x σ hσ hq1 i1 (by omega)) (fun r3 s hp => ?_)
  subst hp
  refine zk_ite (fun _ => ?_) (fun _ => zk_some ⟨rfl, Or.inl rfl⟩)
  have ex := zTe (zTadd (zTs x) (zTl zt_1) (by omega) (by omega))
  exact ih (x + 1) σ ⟨rfl, by rw [ex]; omega, by rw [ex]; omega⟩ (by show (4 - (x + 1).toInt).toNat < (4 - x.toInt).toNat; rw [ex]; omega)

set_option maxHeartbeats 400000 in
theorem s_X1_keyHere  (σ : zg_S) (hσ : IX σ)  : zk (f_X1_keyHere  σ) (fun r s => σ = s) := by
  unfold f_X1_keyHere
  have e1 := zt_0
  refine zk_call (s_X1_isWord 0 σ hσ (by decide)) (fun r1 σ2 hp2 => ?_)
  obtain ⟨rfl, x3⟩ := hp2
  refine zk_ite (fun h4 => ?_) (fun h4 => ?_)
  · have g5 := zeq h4
    have e6 := zt_1
    refine zk_call (s_X1_isWord 1 σ hσ (by decide)) (fun r10 σ11 hp7 => ?_)
    obtain ⟨rfl, x8⟩ := hp7
    refine zk_ite (fun h9 => ?_) (fun h9 => ?_)
    · have g10 := zeq h9
      have e11 := zt_2
      refine zk_call (s_X1_isWord 2 σ hσ (by decide)) (fun r19 σ20 hp12 => ?_)
      obtain ⟨rfl, x13⟩ := hp12
      refine zk_ite (fun h14 => ?_) (fun h14 => ?_)
      · have g15 := zeq h14
        exact zk_some rfl
      · have g16 := zne h14
        exact zk_some rfl
    · have g17 := zne h9
      exact zk_some rfl
  · have g18 := zne h4
    exact zk_some rfl

set_option maxHeartbeats 400000 in
theorem s_X1_levelOf (a0 : Int32) (σ : zg_S) (hσ : IX σ)  : zk (f_X1_levelOf a0 σ) (fun r s => σ = s) := by
  unfold f_X1_levelOf
  refine zk_ite (fun h1 => ?_) (fun h1 => ?_)
  · have g2 := zeq h1
    have e3 := zt_38
    exact zk_some rfl
  · have g4 := zne h1
    have e5 := zt_38
    refine zk_ite (fun h6 => ?_) (fun h6 => ?_)
    · have g7 := zeq h6
      have e8 := zt_42
      exact zk_some rfl
    · have g9 := zne h6
      have e10 := zt_42
      refine zk_ite (fun h11 => ?_) (fun h11 => ?_)
      · have g12 := zeq h11
        have e13 := zt_43
        exact zk_some rfl
      · have g14 := zne h11
        have e15 := zt_43
        refine zk_ite (fun h16 => ?_) (fun h16 => ?_)
        · have g17 := zeq h16
          have e18 := zt_45
          exact zk_some rfl
        · have g19 := zne h16
          have e20 := zt_45
          refine zk_ite (fun h21 => ?_) (fun h21 => ?_)
          · have g22 := zeq h21
            have e23 := zt_47
            exact zk_some rfl
          · have g24 := zne h21
            have e25 := zt_47
            refine zk_ite (fun h26 => ?_) (fun h26 => ?_)
            · have g27 := zeq h26
              have e28 := zt_60
              exact zk_some rfl
            · have g29 := zne h26
              have e30 := zt_60
              refine zk_ite (fun h31 => ?_) (fun h31 => ?_)
              · have g32 := zeq h31
                have e33 := zt_61
                exact zk_some rfl
              · have g34 := zne h31
                have e35 := zt_61
                refine zk_ite (fun h36 => ?_) (fun h36 => ?_)
                · have g37 := zeq h36
                  have e38 := zt_62
                  exact zk_some rfl
                · have g39 := zne h36
                  have e40 := zt_62
                  refine zk_ite (fun h41 => ?_) (fun h41 => ?_)
                  · have g42 := zeq h41
                    have e43 := zt_124
                    exact zk_some rfl
                  · have g44 := zne h41
                    have e45 := zt_124
                    exact zk_some rfl

set_option maxHeartbeats 400000 in
theorem s_X5_addStep (q0 : Nat) (a1 : Int32) (σ : zg_S) (hσ : IX σ) (hq0 : XL.2.1 q0 = 5) : zk (f_X5_addStep q0 a1 σ) (fun r s => IX s ∧ s 7 6 = σ 7 6 ∧ s 7 7 = σ 7 7) := by
  unfold f_X5_addStep
  refine zk_ite (fun h1 => ?_) (fun h1 => ?_)
  · have g2 := zle h1
    have e3 := zt_96
    have f4 : 0 ≤ (σ q0 2).toInt ∧ (σ q0 2).toInt ≤ 96 := IXf hσ hq0 2
    have e5 := zt_0
    exact zk_some ⟨hσ, rfl, rfl⟩
  · have g6 := znle h1
    have e7 := zt_96
    have f8 : 0 ≤ (σ q0 2).toInt ∧ (σ q0 2).toInt ≤ 96 := IXf hσ hq0 2
    have z9 : zin (σ q0 2) 96 = true := zin_mkT (zTs (σ q0 2)) (by omega) (by omega)
    refine zk_in z9 ?_
    refine zk_let (fun σ7 q11 => ?_)
    have hS10 : IX σ7 := by rw [q11]; exact IX.up hσ (xT1 hq0) trivial
    have kp12 : σ7 7 6 = σ 7 6 := by rw [q11]; exact zkeep (xT1 hq0) xk_7 rfl
    have kp13 : σ7 7 7 = σ 7 7 := by rw [q11]; exact zkeep (xT1 hq0) xk_7 rfl
    have kp14 : σ7 q0 2 = σ q0 2 := by rw [q11]; exact zkeep (xT1 hq0) hq0 rfl
    refine zk_let (fun σ13 q16 => ?_)
    have g17 := congrArg Int32.toInt (kp14.trans rfl)
    have f18 : 0 ≤ (σ7 q0 2).toInt ∧ (σ7 q0 2).toInt ≤ 96 := IXf hS10 hq0 2
    have hS15 : IX σ13 := by rw [q16]; exact IX.up hS10 hq0 (xconT (zTadd (zTs (σ7 q0 2)) (zTl zt_1) (by omega) (by omega)) ⟨by omega, by omega⟩)
    have kp19 : σ13 7 6 = σ7 7 6 := by rw [q16]; exact zkeep hq0 xk_7 rfl
    have kp20 : σ13 7 7 = σ7 7 7 := by rw [q16]; exact zkeep hq0 xk_7 rfl
    have e21 := zt_0
    exact zk_some ⟨hS15, (kp19.trans (kp12.trans rfl)), (kp20.trans (kp13.trans rfl))⟩

set_option maxHeartbeats 400000 in
theorem s_X5_addLeaf (q0 : Nat) (a1 : Int32) (σ : zg_S) (hσ : IX σ) (hq0 : XL.2.1 q0 = 5) : zk (f_X5_addLeaf q0 a1 σ) (fun r s => IX s ∧ s 7 6 = σ 7 6 ∧ s 7 7 = σ 7 7) := by
  unfold f_X5_addLeaf
  refine zk_let (fun σ1 q2 => ?_)
  have hS1 : IX σ1 := by rw [q2]; exact IX.up hσ hq0 trivial
  have kp3 : σ1 7 6 = σ 7 6 := by rw [q2]; exact zkeep hq0 xk_7 rfl
  have kp4 : σ1 7 7 = σ 7 7 := by rw [q2]; exact zkeep hq0 xk_7 rfl
  refine zk_call (s_X5_addStep q0 a1 σ1 hS1 hq0) (fun r7 σ8 hp5 => ?_)
  obtain ⟨hS8, x6, x7⟩ := hp5
  have e9 := zt_0
  exact zk_some ⟨hS8, (x6.trans (kp3.trans rfl)), (x7.trans (kp4.trans rfl))⟩

set_option maxHeartbeats 400000 in
theorem s_X1_readNumber  (σ : zg_S) (hσ : IX σ)  : zk (f_X1_readNumber  σ) (fun r s => IX s ∧ (r = 0 ∨ r = 1) ∧ s 7 6 = σ 7 6 ∧ s 7 7 = σ 7 7) := by
  unfold f_X1_readNumber
  have f1 : 0 ≤ (σ 7 4).toInt ∧ (σ 7 4).toInt ≤ 96 := IXf hσ xk_7 4
  unfold L_X1_readNumber_7
  refine zl_II (fun (x1 : Int32) (x2 : Int32) (s7_ : zg_S) => IX s7_ ∧ s7_ 7 6 = σ 7 6 ∧ s7_ 7 7 = σ 7 7 ∧ 0 ≤ x2.toInt ∧ x2.toInt ≤ 96) (fun (x1 : Int32) (x2 : Int32) (s7_ : zg_S) => (96 - x2.toInt).toNat) ?_ zfu 0 (σ 7 4) σ ⟨hσ, rfl, rfl, (by omega), (by omega)⟩ (by unfold zfu; omega)
  intro rec7_ x1 x2 s7_ hI2 ih7_
  obtain ⟨hS3, he4, he5, i6, i7⟩ := hI2
  unfold B_X1_readNumber_7
  refine zk_ite (fun h8 => ?_) (fun h8 => ?_)
  · have g9 := zle h8
    have f10 : 0 ≤ (s7_ 7 5).toInt ∧ (s7_ 7 5).toInt ≤ 96 := IXf hS3 xk_7 5
    unfold B_X1_readNumber_44
    have e11 := zt_8
    refine zk_call (s_X5_addLeaf 8 x1 s7_ hS3 xk_8) (fun r1 σ2 hp12 => ?_)
    obtain ⟨hS15, x13, x14⟩ := hp12
    refine zk_call (s_X1_advance σ2 hS15 ) (fun r8 σ9 hp16 => ?_)
    obtain ⟨hS19, x17, x18⟩ := hp16
    have e20 := zt_1
    exact zk_some ⟨hS19, (by first | exact Or.inl rfl | exact Or.inr rfl | assumption | omega | exact Or.inr ⟨rfl, by omega, by omega⟩ | exact Or.inr ⟨by omega, by omega⟩), (x17.trans (x13.trans he4)), (x18.trans (x14.trans he5))⟩
  · have g21 := znle h8
    have f22 : 0 ≤ (s7_ 7 5).toInt ∧ (s7_ 7 5).toInt ≤ 96 := IXf hS3 xk_7 5
    refine zk_ite (fun h23 => ?_) (fun h23 => ?_)
    · have g24 := zle h23
      have f25 : 0 ≤ (s7_ 7 2).toInt ∧ (s7_ 7 2).toInt ≤ 96 := IXf hS3 xk_7 2
      unfold B_X1_readNumber_44
      have e26 := zt_8
      refine zk_call (s_X5_addLeaf 8 x1 s7_ hS3 xk_8) (fun r1 σ2 hp27 => ?_)
      obtain ⟨hS30, x28, x29⟩ := hp27
      refine zk_call (s_X1_advance σ2 hS30 ) (fun r8 σ9 hp31 => ?_)
      obtain ⟨hS34, x32, x33⟩ := hp31
      have e35 := zt_1
      exact zk_some ⟨hS34, (by first | exact Or.inl rfl | exact Or.inr rfl | assumption | omega | exact Or.inr ⟨rfl, by omega, by omega⟩ | exact Or.inr ⟨by omega, by omega⟩), (x32.trans (x28.trans he4)), (x33.trans (x29.trans he5))⟩
    · have g36 := znle h23
      have f37 : 0 ≤ (s7_ 7 2).toInt ∧ (s7_ 7 2).toInt ≤ 96 := IXf hS3 xk_7 2
      have z38 : zin x2 96 = true := zin_mkT (zTs x2) (by omega) (by omega)
      refine zk_in z38 ?_
      refine zk_let (fun y24 ey39 => ?_)
      exact ih7_ y24 (x2 + 1) s7_ ⟨hS3, he4, he5, (by rw [zTe (zTadd (zTs x2) (zTl zt_1) (by omega) (by omega))]; omega), (by rw [zTe (zTadd (zTs x2) (zTl zt_1) (by omega) (by omega))]; omega)⟩ (by show (96 - (x2 + 1).toInt).toNat < (96 - x2.toInt).toNat; rw [zTe (zTadd (zTs x2) (zTl zt_1) (by omega) (by omega))]; omega)

set_option maxHeartbeats 400000 in
theorem s_X1_readName  (σ : zg_S) (hσ : IX σ)  : zk (f_X1_readName  σ) (fun r s => IX s ∧ (r = 0 ∨ r = 1) ∧ s 7 6 = σ 7 6 ∧ s 7 7 = σ 7 7) := by
  unfold f_X1_readName
  refine zk_ite (fun h1 => ?_) (fun h1 => ?_)
  · have g2 := zeq h1
    have f3 : 0 ≤ (σ 7 5).toInt ∧ (σ 7 5).toInt ≤ 96 := IXf hσ xk_7 5
    have f4 : 0 ≤ (σ 7 4).toInt ∧ (σ 7 4).toInt ≤ 96 := IXf hσ xk_7 4
    have e5 := zt_1
    refine zk_ite (fun h6 => ?_) (fun h6 => ?_)
    · have g7 := zle h6
      have f8 : 0 ≤ (σ 7 2).toInt ∧ (σ 7 2).toInt ≤ 96 := IXf hσ xk_7 2
      unfold B_X1_readName_50
      unfold B_X1_readName_51
      refine zk_ite (fun h9 => ?_) (fun h9 => ?_)
      · have g10 := zle h9
        have e11 := zt_0
        have e12 := zt_m1
        have e13 := zt_8
        refine zk_call (s_X5_addLeaf 8 ((-1) - (-1)) σ hσ xk_8) (fun r5 σ6 hp14 => ?_)
        obtain ⟨hS17, x15, x16⟩ := hp14
        refine zk_call (s_X1_advance σ6 hS17 ) (fun r12 σ13 hp18 => ?_)
        obtain ⟨hS21, x19, x20⟩ := hp18
        exact zk_some ⟨hS21, (by first | exact Or.inl rfl | exact Or.inr rfl | assumption | omega | exact Or.inr ⟨rfl, by omega, by omega⟩ | exact Or.inr ⟨by omega, by omega⟩), (x19.trans (x15.trans rfl)), (x20.trans (x16.trans rfl))⟩
      · have g22 := znle h9
        have e23 := zt_0
        have e24 := zt_m1
        exact zk_some ⟨hσ, (by first | exact Or.inl rfl | exact Or.inr rfl | assumption | omega | exact Or.inr ⟨rfl, by omega, by omega⟩ | exact Or.inr ⟨by omega, by omega⟩), rfl, rfl⟩
    · have g25 := znle h6
      have f26 : 0 ≤ (σ 7 2).toInt ∧ (σ 7 2).toInt ≤ 96 := IXf hσ xk_7 2
      have z27 : zin (σ 7 4) 96 = true := zin_mkT (zTs (σ 7 4)) (by omega) (by omega)
      refine zk_in z27 ?_
      refine zk_call (s_J0_indexOf_0f7a4 (zg_nm (σ 8 0)) ((Int32.toUInt32 (σ 6 (Int32.toNatClampNeg (σ 7 4))) % 65536).toInt32) σ hσ (zg_nm_lt (σ 8 0))) (fun r32 σ33 hp28 => ?_)
      subst hp28
      unfold B_X1_readName_51
      refine zk_ite (fun h29 => ?_) (fun h29 => ?_)
      · have g30 := zle h29
        have e31 := zt_0
        have e32 := zt_8
        refine zk_call (s_X5_addLeaf 8 ((-1) - r32) σ hσ xk_8) (fun r5 σ6 hp33 => ?_)
        obtain ⟨hS36, x34, x35⟩ := hp33
        refine zk_call (s_X1_advance σ6 hS36 ) (fun r12 σ13 hp37 => ?_)
        obtain ⟨hS40, x38, x39⟩ := hp37
        exact zk_some ⟨hS40, (by first | exact Or.inl rfl | exact Or.inr rfl | assumption | omega | exact Or.inr ⟨rfl, by omega, by omega⟩ | exact Or.inr ⟨by omega, by omega⟩), (x38.trans (x34.trans rfl)), (x39.trans (x35.trans rfl))⟩
      · have g41 := znle h29
        have e42 := zt_0
        exact zk_some ⟨hσ, (by first | exact Or.inl rfl | exact Or.inr rfl | assumption | omega | exact Or.inr ⟨rfl, by omega, by omega⟩ | exact Or.inr ⟨by omega, by omega⟩), rfl, rfl⟩
  · have g43 := zne h1
    have f44 : 0 ≤ (σ 7 5).toInt ∧ (σ 7 5).toInt ≤ 96 := IXf hσ xk_7 5
    have f45 : 0 ≤ (σ 7 4).toInt ∧ (σ 7 4).toInt ≤ 96 := IXf hσ xk_7 4
    have e46 := zt_1
    unfold B_X1_readName_50
    unfold B_X1_readName_51
    refine zk_ite (fun h47 => ?_) (fun h47 => ?_)
    · have g48 := zle h47
      have e49 := zt_0
      have e50 := zt_m1
      have e51 := zt_8
      refine zk_call (s_X5_addLeaf 8 ((-1) - (-1)) σ hσ xk_8) (fun r5 σ6 hp52 => ?_)
      obtain ⟨hS55, x53, x54⟩ := hp52
      refine zk_call (s_X1_advance σ6 hS55 ) (fun r12 σ13 hp56 => ?_)
      obtain ⟨hS59, x57, x58⟩ := hp56
      exact zk_some ⟨hS59, (by first | exact Or.inl rfl | exact Or.inr rfl | assumption | omega | exact Or.inr ⟨rfl, by omega, by omega⟩ | exact Or.inr ⟨by omega, by omega⟩), (x57.trans (x53.trans rfl)), (x58.trans (x54.trans rfl))⟩
    · have g60 := znle h47
      have e61 := zt_0
      have e62 := zt_m1
      exact zk_some ⟨hσ, (by first | exact Or.inl rfl | exact Or.inr rfl | assumption | omega | exact Or.inr ⟨rfl, by omega, by omega⟩ | exact Or.inr ⟨by omega, by omega⟩), rfl, rfl⟩

set_option maxHeartbeats 400000 in
theorem s_X1_signHere  (σ : zg_S) (hσ : IX σ)  : zk (f_X1_signHere  σ) (fun r s => σ = s) := by
  unfold f_X1_signHere
  refine zk_ite (fun h1 => ?_) (fun h1 => ?_)
  · have g2 := zeq h1
    have e3 := zt_3
    have e4 := zt_0
    have e5 := zt_95
    refine zk_call (s_X6_within (σ 7 4) 0 95 σ hσ ) (fun r4 σ5 hp6 => ?_)
    obtain ⟨rfl, x7⟩ := hp6
    have f8 : 0 ≤ (σ 7 4).toInt ∧ (σ 7 4).toInt ≤ 96 := IXf hσ xk_7 4
    refine zk_ite (fun h12 => ?_) (fun h12 => ?_)
    · have g13 := zeq h12
      exact zk_some rfl
    · have g14 := zne h12
      obtain ⟨_d9, _d10, _d11⟩ := x7.resolve_left h12
      have z15 : zin (σ 7 4) 96 = true := zin_mkT (zTs (σ 7 4)) (by omega) (by omega)
      refine zk_in z15 ?_
      exact zk_some rfl
  · have g16 := zne h1
    have e17 := zt_3
    exact zk_some rfl

