set_option maxHeartbeats 400000 in
theorem s_X4_takeOver (q0 : Nat) (q1 : Nat) (σ : zg_S) (hσ : IX σ) (hq0 : XL.2.1 q0 = 4) (hq1 : XL.2.1 q1 = 4) : zk (f_X4_takeOver q0 q1 σ) (fun r s => IX s) := by
  unfold f_X4_takeOver
  refine zk_let (fun σ1 q2 => ?_)
  have hS1 : IX σ1 := by rw [q2]; exact IX.up hσ hq0 trivial
  refine zk_let (fun σ7 q4 => ?_)
  have hS3 : IX σ7 := by rw [q4]; exact IX.up hS1 hq0 trivial
  refine zk_let (fun σ13 q6 => ?_)
  have hS5 : IX σ13 := by rw [q6]; exact IX.up hS3 hq0 trivial
  refine zk_let (fun σ19 q8 => ?_)
  have hS7 : IX σ19 := by rw [q8]; exact IX.up hS5 hq0 trivial
  exact zk_some hS7

set_option maxHeartbeats 400000 in
theorem s_X0_takeOver (q0 : Nat) (q1 : Nat) (σ : zg_S) (hσ : IX σ) (hq0 : XL.2.1 q0 = 0) (hq1 : XL.2.1 q1 = 0) : zk (f_X0_takeOver q0 q1 σ) (fun r s => IX s) := by
  unfold f_X0_takeOver
  refine zk_let (fun σ95 q2 => ?_)
  have f3 : 0 ≤ (σ q1 3).toInt ∧ (σ q1 3).toInt ≤ 9 := IXf hσ hq1 3
  have hS1 : IX σ95 := by rw [q2]; exact IX.up hσ hq0 (xconT (zTs (σ q1 3)) ⟨by omega, by omega⟩)
  have e4 := zt_0
  unfold L_X0_takeOver_10
  refine zl_I (fun (x2 : Int32) (s10_ : zg_S) => IX s10_ ∧ 0 ≤ x2.toInt ∧ x2.toInt ≤ 9) (fun (x2 : Int32) (s10_ : zg_S) => (9 - x2.toInt).toNat) ?_ zfu 0 σ95 ⟨hS1, (by omega), (by omega)⟩ (by unfold zfu; omega)
  intro rec10_ x2 s10_ hI5 ih10_
  obtain ⟨hS6, i7, i8⟩ := hI5
  unfold B_X0_takeOver_10
  refine zk_ite (fun h9 => ?_) (fun h9 => ?_)
  · have g10 := zle h9
    have f11 : 0 ≤ (s10_ q0 3).toInt ∧ (s10_ q0 3).toInt ≤ 9 := IXf hS6 hq0 3
    refine zk_let (fun σ74 q13 => ?_)
    have f14 : 0 ≤ (s10_ q1 4).toInt ∧ (s10_ q1 4).toInt ≤ 14 := IXf hS6 hq1 4
    have hS12 : IX σ74 := by rw [q13]; exact IX.up hS6 hq0 (xconT (zTs (s10_ q1 4)) ⟨by omega, by omega⟩)
    have e15 := zt_0
    unfold L_X0_takeOver_49
    refine zl_I (fun (x2 : Int32) (s49_ : zg_S) => IX s49_ ∧ 0 ≤ x2.toInt ∧ x2.toInt ≤ 3) (fun (x2 : Int32) (s49_ : zg_S) => (3 - x2.toInt).toNat) ?_ zfu 0 σ74 ⟨hS12, (by omega), (by omega)⟩ (by unfold zfu; omega)
    intro rec49_ x2 s49_ hI16 ih49_
    obtain ⟨hS17, i18, i19⟩ := hI16
    unfold B_X0_takeOver_49
    refine zk_ite (fun h20 => ?_) (fun h20 => ?_)
    · have g21 := zle h20
      have e22 := zt_3
      refine zk_let (fun σ3 q24 => ?_)
      have hS23 : IX σ3 := by rw [q24]; exact IX.up hS17 hq0 trivial
      refine zk_let (fun σ9 q26 => ?_)
      have hS25 : IX σ9 := by rw [q26]; exact IX.up hS23 hq0 trivial
      refine zk_let (fun σ15 q28 => ?_)
      have hS27 : IX σ15 := by rw [q28]; exact IX.up hS25 hq0 trivial
      refine zk_let (fun σ21 q30 => ?_)
      have hS29 : IX σ21 := by rw [q30]; exact IX.up hS27 hq0 trivial
      refine zk_let (fun σ27 q32 => ?_)
      have hS31 : IX σ27 := by rw [q32]; exact IX.up hS29 hq0 trivial
      refine zk_let (fun σ33 q34 => ?_)
      have hS33 : IX σ33 := by rw [q34]; exact IX.up hS31 hq0 trivial
      refine zk_let (fun σ39 q36 => ?_)
      have hS35 : IX σ39 := by rw [q36]; exact IX.up hS33 hq0 trivial
      refine zk_let (fun σ45 q38 => ?_)
      have hS37 : IX σ45 := by rw [q38]; exact IX.up hS35 hq0 trivial
      refine zk_let (fun σ51 q40 => ?_)
      have hS39 : IX σ51 := by rw [q40]; exact IX.up hS37 hq0 trivial
      exact zk_some hS39
    · have g41 := znle h20
      have e42 := zt_3
      have z43 : zin x2 3 = true := zin_mkT (zTs x2) (by omega) (by omega)
      refine zk_in z43 ?_
      refine zk_let (fun y61 ey44 => ?_)
      refine zk_let (fun σ64 q46 => ?_)
      have hS45 : IX σ64 := by rw [q46]; exact IX.up hS17 (xB2 hq0) trivial
      exact ih49_ (x2 + 1) σ64 ⟨hS45, (by rw [zTe (zTadd (zTs x2) (zTl zt_1) (by omega) (by omega))]; omega), (by rw [zTe (zTadd (zTs x2) (zTl zt_1) (by omega) (by omega))]; omega)⟩ (by show (3 - (x2 + 1).toInt).toNat < (3 - x2.toInt).toNat; rw [zTe (zTadd (zTs x2) (zTl zt_1) (by omega) (by omega))]; omega)
  · have g47 := znle h9
    have f48 : 0 ≤ (s10_ q0 3).toInt ∧ (s10_ q0 3).toInt ≤ 9 := IXf hS6 hq0 3
    have z49 : zin x2 9 = true := zin_mkT (zTs x2) (by omega) (by omega)
    refine zk_in z49 ?_
    refine zk_call (s_X4_takeOver ((q0 + 1) + 2 + (Int32.toNatClampNeg x2)) ((q1 + 1) + 2 + (Int32.toNatClampNeg x2)) s10_ hS6 (xS (xB1 hq0) (zIn z49).2) (xS (xB1 hq1) (zIn z49).2)) (fun r86 σ87 hp50 => ?_)
    have hS51 := hp50
    exact ih10_ (x2 + 1) σ87 ⟨hS51, (by rw [zTe (zTadd (zTs x2) (zTl zt_1) (by omega) (by omega))]; omega), (by rw [zTe (zTadd (zTs x2) (zTl zt_1) (by omega) (by omega))]; omega)⟩ (by show (9 - (x2 + 1).toInt).toNat < (9 - x2.toInt).toNat; rw [zTe (zTadd (zTs x2) (zTl zt_1) (by omega) (by omega))]; omega)

set_option maxHeartbeats 400000 in
theorem s_X0_widen (q0 : Nat) (a1 : Int32) (σ : zg_S) (hσ : IX σ) (hq0 : XL.2.1 q0 = 0) : zk (f_X0_widen q0 a1 σ) (fun r s => IX s) := by
  unfold f_X0_widen
  refine zk_let (fun σ1 q2 => ?_)
  have hS1 : IX σ1 := by rw [q2]; exact IX.up hσ hq0 trivial
  refine zk_call (s_X0_lastFirst q0 σ1 hS1 hq0) (fun r7 σ8 hp3 => ?_)
  subst hp3
  have e4 := zt_0
  refine zk_call (s_X6_held (σ1 q0 6) 0 r7 σ1 hS1 ) (fun r14 σ15 hp5 => ?_)
  obtain ⟨rfl, x6⟩ := hp5
  refine zk_let (fun σ21 q8 => ?_)
  have hS7 : IX σ21 := by rw [q8]; exact IX.up hS1 hq0 trivial
  exact zk_some hS7

set_option maxHeartbeats 400000 in
theorem s_X1_sortAt (a1 : Int32) (σ : zg_S) (hσ : IX σ)  : zk (f_X1_sortAt a1 σ) (fun r s => σ = s ∧ (r = 0 ∨ (0 ≤ a1.toInt ∧ a1.toInt < (σ 7 2).toInt))) := by
  unfold f_X1_sortAt
  refine zk_ite (fun h1 => ?_) (fun h1 => ?_)
  · have g2 := zlt h1
    have e3 := zt_0
    exact zk_some ⟨rfl, (by first | exact Or.inl rfl | exact Or.inr rfl | assumption | omega | exact Or.inr ⟨rfl, by omega, by omega⟩ | exact Or.inr ⟨by omega, by omega⟩)⟩
  · have g4 := znlt h1
    have e5 := zt_0
    refine zk_ite (fun h6 => ?_) (fun h6 => ?_)
    · have g7 := zlt h6
      have f8 : 0 ≤ (σ 7 2).toInt ∧ (σ 7 2).toInt ≤ 96 := IXf hσ xk_7 2
      have z9 : zin a1 96 = true := zin_mkT (zTs a1) (by omega) (by omega)
      refine zk_in z9 ?_
      refine zk_ite (fun h10 => ?_) (fun h10 => ?_)
      · have g11 := zlt h10
        have e12 := zt_97
        unfold B_X1_sortAt_35
        refine zk_ite (fun h13 => ?_) (fun h13 => ?_)
        · have g14 := zlt h13
          have e15 := zt_48
          have e16 := zt_3
          exact zk_some ⟨rfl, (by first | exact Or.inl rfl | exact Or.inr rfl | assumption | omega | exact Or.inr ⟨rfl, by omega, by omega⟩ | exact Or.inr ⟨by omega, by omega⟩)⟩
        · have g17 := znlt h13
          have e18 := zt_48
          refine zk_ite (fun h19 => ?_) (fun h19 => ?_)
          · have g20 := zlt h19
            have e21 := zt_57
            have e22 := zt_3
            exact zk_some ⟨rfl, (by first | exact Or.inl rfl | exact Or.inr rfl | assumption | omega | exact Or.inr ⟨rfl, by omega, by omega⟩ | exact Or.inr ⟨by omega, by omega⟩)⟩
          · have g23 := znlt h19
            have e24 := zt_57
            have e25 := zt_2
            exact zk_some ⟨rfl, (by first | exact Or.inl rfl | exact Or.inr rfl | assumption | omega | exact Or.inr ⟨rfl, by omega, by omega⟩ | exact Or.inr ⟨by omega, by omega⟩)⟩
      · have g26 := znlt h10
        have e27 := zt_97
        refine zk_ite (fun h28 => ?_) (fun h28 => ?_)
        · have g29 := zlt h28
          have e30 := zt_122
          unfold B_X1_sortAt_35
          refine zk_ite (fun h31 => ?_) (fun h31 => ?_)
          · have g32 := zlt h31
            have e33 := zt_48
            have e34 := zt_3
            exact zk_some ⟨rfl, (by first | exact Or.inl rfl | exact Or.inr rfl | assumption | omega | exact Or.inr ⟨rfl, by omega, by omega⟩ | exact Or.inr ⟨by omega, by omega⟩)⟩
          · have g35 := znlt h31
            have e36 := zt_48
            refine zk_ite (fun h37 => ?_) (fun h37 => ?_)
            · have g38 := zlt h37
              have e39 := zt_57
              have e40 := zt_3
              exact zk_some ⟨rfl, (by first | exact Or.inl rfl | exact Or.inr rfl | assumption | omega | exact Or.inr ⟨rfl, by omega, by omega⟩ | exact Or.inr ⟨by omega, by omega⟩)⟩
            · have g41 := znlt h37
              have e42 := zt_57
              have e43 := zt_2
              exact zk_some ⟨rfl, (by first | exact Or.inl rfl | exact Or.inr rfl | assumption | omega | exact Or.inr ⟨rfl, by omega, by omega⟩ | exact Or.inr ⟨by omega, by omega⟩)⟩
        · have g44 := znlt h28
          have e45 := zt_122
          have e46 := zt_1
          exact zk_some ⟨rfl, (by first | exact Or.inl rfl | exact Or.inr rfl | assumption | omega | exact Or.inr ⟨rfl, by omega, by omega⟩ | exact Or.inr ⟨by omega, by omega⟩)⟩
    · have g47 := znlt h6
      have f48 : 0 ≤ (σ 7 2).toInt ∧ (σ 7 2).toInt ≤ 96 := IXf hσ xk_7 2
      exact zk_some ⟨rfl, (by first | exact Or.inl rfl | exact Or.inr rfl | assumption | omega | exact Or.inr ⟨rfl, by omega, by omega⟩ | exact Or.inr ⟨by omega, by omega⟩)⟩

def adQ (σ : zg_S) (_ : Int32) (s : zg_S) : Prop := IX s ∧ s 7 6 = σ 7 6 ∧ s 7 7 = σ 7 7
theorem ad221 (σ : zg_S) (h : IX σ) : zk (B_X1_advance_221 σ) (adQ σ) := by
  unfold B_X1_advance_221
  refine zk_let (fun s q => zk_some ⟨?_, ?_, ?_⟩)
  · rw [q]; exact IX.up h xk_7 trivial
  · rw [q]; exact zkeepf rfl
  · rw [q]; exact zkeepf rfl
theorem ad210 (x3 y0 : Int32) (σ : zg_S) (h : IX σ) : zk (B_X1_advance_210 x3 y0 σ) (adQ σ) := by
  unfold B_X1_advance_210
  exact zk_ite (fun _ => zk_ite (fun _ => zk_some ⟨h, rfl, rfl⟩) (fun _ => ad221 σ h)) (fun _ => ad221 σ h)
theorem ad209 (x3 : Int32) (σ : zg_S) (h : IX σ) : zk (B_X1_advance_209 x3 σ) (adQ σ) := by
  unfold B_X1_advance_209
  exact ad210 x3 0 σ h
theorem ad183 (y0 : Int32) (σ : zg_S) (h : IX σ) : zk (B_X1_advance_183 y0 σ) (adQ σ) := by
  unfold B_X1_advance_183
  exact zk_ite (fun _ => zk_ite (fun _ => ad209 y0 σ h) (fun _ => ad210 y0 1 σ h)) (fun _ => ad209 y0 σ h)
theorem ad182 (σ : zg_S) (h : IX σ) : zk (B_X1_advance_182 σ) (adQ σ) := by
  unfold B_X1_advance_182
  exact ad183 0 σ h
theorem ad158 (x1 x2 : Int32) (σ : zg_S) (h : IX σ) : zk (B_X1_advance_158 x1 x2 σ) (adQ σ) := by
  unfold B_X1_advance_158
  exact zk_ite (fun _ => ad182 σ h) (fun _ => zk_ite (fun _ => ad182 σ h) (fun _ => zk_ite (fun _ => ad183 1 σ h) (fun _ => ad182 σ h)))
theorem ad111 (x1 x2 : Int32) (σ : zg_S) (h : IX σ) : zk (L_X1_advance_111 zfu x1 x2 σ) (adQ σ) := by
  have f0 : 0 ≤ (σ 7 5).toInt ∧ (σ 7 5).toInt ≤ 96 := IXf h xk_7 5
  unfold L_X1_advance_111
  refine zl_II (fun _ _ s => adQ σ 0 s) (fun _ _ s => (97 - (s 7 5).toInt).toNat) ?_ zfu _ _ _ ⟨h, rfl, rfl⟩ (by unfold zfu; omega)
  intro rec y1 y2 s hI ih
  obtain ⟨hs, k6, k7⟩ := hI
  have f5 : 0 ≤ (s 7 5).toInt ∧ (s 7 5).toInt ≤ 96 := IXf hs xk_7 5
  have f2 : 0 ≤ (s 7 2).toInt ∧ (s 7 2).toInt ≤ 96 := IXf hs xk_7 2
  unfold B_X1_advance_111
  have ex : zk (B_X1_advance_158 y1 y2 s) (adQ σ) := zk_mono (ad158 y1 y2 s hs) (fun r t ht => ⟨ht.1, ht.2.1.trans k6, ht.2.2.trans k7⟩)
  refine zk_ite (fun _ => ex) (fun _ => zk_ite (fun _ => ex) (fun hl => ?_))
  have g := znle hl
  refine zk_call (s_X1_sortAt (s 7 5) s hs) (fun r t hp => ?_)
  obtain ⟨rfl, _⟩ := hp
  refine zk_ite (fun _ => ?_) (fun _ => ex)
  refine zk_let (fun t q => ?_)
  have e1 := zt_1
  have ea := zadd (s 7 5) 1 (by omega) (by omega)
  have t5 : t 7 5 = s 7 5 + 1 := by rw [q]; exact zgot
  refine ih y1 y2 t ⟨by rw [q]; exact IX.up hs xk_7 ⟨by omega, by omega⟩, by rw [q]; exact (zkeepf rfl).trans k6, by rw [q]; exact (zkeepf rfl).trans k7⟩ (by show (97 - (t 7 5).toInt).toNat < (97 - (s 7 5).toInt).toNat; rw [t5, ea]; omega)
theorem ad73 (x1 x2 : Int32) (σ : zg_S) (h : IX σ) : zk (B_X1_advance_73 x1 x2 σ) (adQ σ) := by
  have f4 : 0 ≤ (σ 7 4).toInt ∧ (σ 7 4).toInt ≤ 96 := IXf h xk_7 4
  unfold B_X1_advance_73
  refine zk_let (fun s1 q1 => ?_)
  have h1 : IX s1 := by rw [q1]; exact IX.up h xk_7 f4
  have a6 : s1 7 6 = σ 7 6 := by rw [q1]; exact zkeepf rfl
  have a7 : s1 7 7 = σ 7 7 := by rw [q1]; exact zkeepf rfl
  have a4 : s1 7 4 = σ 7 4 := by rw [q1]; exact zkeepf rfl
  have a5 : s1 7 5 = σ 7 4 := by rw [q1]; exact zgot
  have f2 : 0 ≤ (s1 7 2).toInt ∧ (s1 7 2).toInt ≤ 96 := IXf h1 xk_7 2
  refine zk_call (s_X1_sortAt (s1 7 4) s1 h1) (fun r t hp => ?_)
  obtain ⟨rfl, hr⟩ := hp
  refine zk_let (fun s2 q2 => ?_)
  have h2 : IX s2 := by rw [q2]; exact IX.up h1 xk_7 trivial
  have b6 : s2 7 6 = σ 7 6 := by rw [q2]; exact (zkeepf rfl).trans a6
  have b7 : s2 7 7 = σ 7 7 := by rw [q2]; exact (zkeepf rfl).trans a7
  have b5 : s2 7 5 = s1 7 4 := by rw [q2]; exact (zkeepf rfl).trans (a5.trans a4.symm)
  have b3 : s2 7 3 = r := by rw [q2]; exact zgot
  refine zk_ite (fun _ => zk_some ⟨h2, b6, b7⟩) (fun hn => ?_)
  rw [b3] at hn
  have hr := hr.resolve_left hn
  refine zk_let (fun s3 q3 => ?_)
  have e1 := zt_1
  have g5 := congrArg Int32.toInt b5
  have ea := zadd (s2 7 5) 1 (by omega) (by omega)
  have h3 : IX s3 := by rw [q3]; exact IX.up h2 xk_7 ⟨by omega, by omega⟩
  have c6 : s3 7 6 = σ 7 6 := by rw [q3]; exact (zkeepf rfl).trans b6
  have c7 : s3 7 7 = σ 7 7 := by rw [q3]; exact (zkeepf rfl).trans b7
  exact zk_mono (ad111 x1 x2 s3 h3) (fun r t ht => ⟨ht.1, ht.2.1.trans c6, ht.2.2.trans c7⟩)
theorem ad35 (x1 x2 : Int32) (σ : zg_S) (h : IX σ) : zk (L_X1_advance_35 zfu x1 x2 σ) (adQ σ) := by
  have f0 : 0 ≤ (σ 7 4).toInt ∧ (σ 7 4).toInt ≤ 96 := IXf h xk_7 4
  unfold L_X1_advance_35
  refine zl_II (fun _ _ s => adQ σ 0 s) (fun _ _ s => (97 - (s 7 4).toInt).toNat) ?_ zfu _ _ _ ⟨h, rfl, rfl⟩ (by unfold zfu; omega)
  intro rec y1 y2 s hI ih
  obtain ⟨hs, k6, k7⟩ := hI
  have f4 : 0 ≤ (s 7 4).toInt ∧ (s 7 4).toInt ≤ 96 := IXf hs xk_7 4
  have f2 : 0 ≤ (s 7 2).toInt ∧ (s 7 2).toInt ≤ 96 := IXf hs xk_7 2
  unfold B_X1_advance_35
  have ex : zk (B_X1_advance_73 y1 y2 s) (adQ σ) := zk_mono (ad73 y1 y2 s hs) (fun r t ht => ⟨ht.1, ht.2.1.trans k6, ht.2.2.trans k7⟩)
  refine zk_ite (fun _ => ex) (fun hl => ?_)
  have g := znle hl
  refine zk_in (zin_mk (by omega) (by omega)) ?_
  refine zk_ite (fun _ => ?_) (fun _ => ex)
  refine zk_let (fun t q => ?_)
  have e1 := zt_1
  have ea := zadd (s 7 4) 1 (by omega) (by omega)
  have t4 : t 7 4 = s 7 4 + 1 := by rw [q]; exact zgot
  refine ih y1 y2 t ⟨by rw [q]; exact IX.up hs xk_7 ⟨by omega, by omega⟩, by rw [q]; exact (zkeepf rfl).trans k6, by rw [q]; exact (zkeepf rfl).trans k7⟩ (by show (97 - (t 7 4).toInt).toNat < (97 - (s 7 4).toInt).toNat; rw [t4, ea]; omega)
theorem ad21 (y0 : Int32) (σ : zg_S) (h : IX σ) : zk (B_X1_advance_21 y0 σ) (adQ σ) := by
  have f5 : 0 ≤ (σ 7 5).toInt ∧ (σ 7 5).toInt ≤ 96 := IXf h xk_7 5
  unfold B_X1_advance_21
  refine zk_let (fun s1 q1 => ?_)
  have h1 : IX s1 := by rw [q1]; exact IX.up h xk_7 f5
  have a6 : s1 7 6 = σ 7 6 := by rw [q1]; exact zkeepf rfl
  have a7 : s1 7 7 = σ 7 7 := by rw [q1]; exact zkeepf rfl
  exact zk_mono (ad35 y0 (σ 7 5) s1 h1) (fun r t ht => ⟨ht.1, ht.2.1.trans a6, ht.2.2.trans a7⟩)
theorem s_X1_advance (σ : zg_S) (hσ : IX σ) : zk (f_X1_advance σ) (fun r s => IX s ∧ s 7 6 = σ 7 6 ∧ s 7 7 = σ 7 7) := by
  unfold f_X1_advance B_X1_advance_16
  exact zk_ite (fun _ => ad21 1 σ hσ) (fun _ => zk_ite (fun _ => ad21 1 σ hσ) (fun _ => ad21 0 σ hσ))

