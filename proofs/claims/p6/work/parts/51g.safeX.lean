def rdN (σ : zg_S) : Int := 2 + 8 * (8 - (σ 7 6).toInt) + 2 * (8 - (σ 7 7).toInt)
def rdB (σ : zg_S) : Prop := 0 ≤ (σ 7 6).toInt ∧ (σ 7 6).toInt ≤ 8 ∧ 0 ≤ (σ 7 7).toInt ∧ (σ 7 7).toInt ≤ 8
def rdQ (σ : zg_S) (r : Int32) (s : zg_S) : Prop := IX s ∧ (r = 0 ∨ (r = 1 ∧ s 7 6 = σ 7 6 ∧ s 7 7 = σ 7 7))
theorem rdN_eq {σ s : zg_S} (h6 : s 7 6 = σ 7 6) (h7 : s 7 7 = σ 7 7) : rdN s = rdN σ := by unfold rdN; rw [h6, h7]
theorem rdB_eq {σ s : zg_S} (h6 : s 7 6 = σ 7 6) (h7 : s 7 7 = σ 7 7) (h : rdB σ) : rdB s := by unfold rdB; rw [h6, h7]; exact h
theorem s_G_rd : ∀ d : Nat, (∀ (z0 : Int32) (σ : zg_S), IX σ → rdB σ → 0 ≤ z0.toInt → z0.toInt ≤ 5 → (6 - z0.toInt) + rdN σ ≤ d → zk (G_rd d 0 z0 σ) (rdQ σ)) ∧ (∀ (z0 : Int32) (σ : zg_S), IX σ → rdB σ → rdN σ ≤ d → zk (G_rd d 1 z0 σ) (rdQ σ)) ∧ (∀ (z0 : Int32) (σ : zg_S), IX σ → rdB σ → rdN σ - 1 ≤ d → zk (G_rd d 2 z0 σ) (rdQ σ)) ∧ (∀ (z0 : Int32) (σ : zg_S), IX σ → rdB σ → rdN σ - 1 ≤ d → zk (G_rd d 3 z0 σ) (rdQ σ)) := by
  have e0 := zt_0
  have e1 := zt_1
  have e4 := zt_4
  have e8 := zt_8
  have e96 := zt_96
  intro d
  induction d with
  | zero =>
    refine ⟨fun z0 σ _ hB h0 h5 hd => ?_, fun z0 σ _ hB hd => ?_, fun z0 σ _ hB hd => ?_, fun z0 σ _ hB hd => ?_⟩ <;> (unfold rdN at hd; unfold rdB at hB; omega)
  | succ d ih =>
    obtain ⟨ih0, ih1, ih2, ih3⟩ := ih
    refine ⟨fun z0 σ hσ hB h0 h5 hd => ?_, fun z0 σ hσ hB hd => ?_, fun z0 σ hσ hB hd => ?_, fun z0 σ hσ hB hd => ?_⟩
    · show zk (f_X1_readLevel (G_rd d) z0 σ) _
      unfold f_X1_readLevel
      refine zk_ite (fun hl => ?_) (fun _ => ?_)
      · have g := zle hl
        have ea := zadd z0 1 (by omega) (by omega)
        refine zk_call (ih0 (z0 + 1) σ hσ hB (by omega) (by omega) (by omega)) (fun r s hp => ?_)
        obtain ⟨hs, hx⟩ := hp
        refine zk_ite (fun _ => zk_some ⟨hs, Or.inl rfl⟩) (fun hn => ?_)
        obtain ⟨-, k6, k7⟩ := hx.resolve_left hn
        unfold L_X1_readLevel_24
        refine zl_I (fun (x : Int32) (t : zg_S) => IX t ∧ t 7 6 = σ 7 6 ∧ t 7 7 = σ 7 7 ∧ 0 ≤ x.toInt ∧ x.toInt ≤ 96) (fun (x : Int32) (t : zg_S) => (96 - x.toInt).toNat) ?_ zfu _ _ ⟨hs, k6, k7, by omega, by omega⟩ (by unfold zfu; omega)
        intro rec x t hI ihl
        obtain ⟨ht, j6, j7, i1, i2⟩ := hI
        unfold B_X1_readLevel_24
        refine zk_ite (fun _ => zk_some ⟨ht, Or.inr ⟨rfl, j6, j7⟩⟩) (fun h9 => ?_)
        have g9 := znle h9
        refine zk_call (s_X1_signHere t ht) (fun r1 t1 hp => ?_)
        subst hp
        refine zk_call (s_X1_levelOf r1 t ht) (fun r2 t1 hp => ?_)
        subst hp
        refine zk_ite (fun _ => ?_) (fun _ => zk_some ⟨ht, Or.inr ⟨rfl, j6, j7⟩⟩)
        refine zk_call (s_X1_advance t ht) (fun r3 t3 hp => ?_)
        obtain ⟨h3, a6, a7⟩ := hp
        refine zk_call (ih0 (z0 + 1) t3 h3 (rdB_eq (a6.trans j6) (a7.trans j7) hB) (by omega) (by omega) (by rw [rdN_eq (a6.trans j6) (a7.trans j7)]; omega)) (fun r4 t4 hp => ?_)
        obtain ⟨h4, hx4⟩ := hp
        refine zk_ite (fun _ => zk_some ⟨h4, Or.inl rfl⟩) (fun hn4 => ?_)
        obtain ⟨-, b6, b7⟩ := hx4.resolve_left hn4
        refine zk_call (s_X5_addStep 8 _ t4 h4 xk_8) (fun r5 t5 hp => ?_)
        obtain ⟨h5', c6, c7⟩ := hp
        have m6 := c6.trans (b6.trans (a6.trans j6))
        have m7 := c7.trans (b7.trans (a7.trans j7))
        refine zk_ite (fun _ => zk_some ⟨h5', Or.inr ⟨rfl, m6, m7⟩⟩) (fun _ => ?_)
        have ex := zadd x 1 (by omega) (by omega)
        exact ihl (x + 1) t5 ⟨h5', m6, m7, by omega, by omega⟩ (by omega)
      · refine zk_call (ih1 0 σ hσ hB (by omega)) (fun r s hp => ?_)
        obtain ⟨hs, hx⟩ := hp
        exact zk_ck (hx.imp id And.left) (zk_some ⟨hs, hx⟩)
    · show zk (f_X1_readPiece (G_rd d) σ) _
      unfold f_X1_readPiece
      refine zk_ite (fun _ => ?_) (fun _ => zk_ite (fun _ => ?_) (fun _ => ?_))
      · refine zk_call (s_X1_readName σ hσ) (fun r s hp => ?_)
        obtain ⟨hs, hb, k6, k7⟩ := hp
        exact zk_ck hb (zk_some ⟨hs, hb.imp id (fun h => ⟨h, k6, k7⟩)⟩)
      · refine zk_call (s_X1_readNumber σ hσ) (fun r s hp => ?_)
        obtain ⟨hs, hb, k6, k7⟩ := hp
        exact zk_ck hb (zk_some ⟨hs, hb.imp id (fun h => ⟨h, k6, k7⟩)⟩)
      · refine zk_call (s_X1_signHere σ hσ) (fun r1 t1 hp => ?_)
        subst hp
        refine zk_ite (fun _ => ?_) (fun _ => zk_ite (fun _ => ?_) (fun _ => zk_some ⟨hσ, Or.inl rfl⟩))
        · refine zk_call (ih2 0 σ hσ hB (by omega)) (fun r s hp => ?_)
          obtain ⟨hs, hx⟩ := hp
          exact zk_ck (hx.imp id And.left) (zk_some ⟨hs, hx⟩)
        · refine zk_call (ih3 0 σ hσ hB (by omega)) (fun r s hp => ?_)
          obtain ⟨hs, hx⟩ := hp
          exact zk_ck (hx.imp id And.left) (zk_some ⟨hs, hx⟩)
    · show zk (f_X1_readNot (G_rd d) σ) _
      unfold f_X1_readNot
      refine zk_ite (fun h8 => ?_) (fun _ => zk_some ⟨hσ, Or.inl rfl⟩)
      have g8 := zlt h8
      obtain ⟨B1, B2, B3, B4⟩ := id hB
      have ea := zadd (σ 7 7) 1 (by omega) (by omega)
      refine zk_let (fun s1 q1 => ?_)
      have h1 : IX s1 := by rw [q1]; exact IX.up hσ xk_7 trivial
      have u6 : s1 7 6 = σ 7 6 := by rw [q1]; exact zkeepf rfl
      have u7 : s1 7 7 = σ 7 7 + 1 := by rw [q1]; exact zgot
      refine zk_call (s_X1_advance s1 h1) (fun r2 s2 hp => ?_)
      obtain ⟨h2, a6, a7⟩ := hp
      have v6 := a6.trans u6
      have v7 := a7.trans u7
      refine zk_call (ih1 0 s2 h2 (by unfold rdB; rw [v6, v7]; omega) (by unfold rdN at hd ⊢; rw [v6, v7]; omega)) (fun r3 s3 hp => ?_)
      obtain ⟨h3, hx⟩ := hp
      refine zk_ite (fun _ => zk_some ⟨h3, Or.inl rfl⟩) (fun hn => ?_)
      obtain ⟨-, b6, b7⟩ := hx.resolve_left hn
      refine zk_let (fun s4 q4 => ?_)
      have h4 : IX s4 := by rw [q4]; exact IX.up h3 xk_7 trivial
      have w6 : s4 7 6 = σ 7 6 := by rw [q4]; exact (zkeepf rfl).trans (b6.trans v6)
      have w7 : s4 7 7 = σ 7 7 := by rw [q4]; exact zgot.trans (by rw [b7, v7]; exact Int32.add_sub_cancel _ _)
      refine zk_call (s_X5_addStep 8 _ s4 h4 xk_8) (fun r5 s5 hp => ?_)
      obtain ⟨h5, c6, c7⟩ := hp
      exact zk_some ⟨h5, Or.inr ⟨rfl, c6.trans w6, c7.trans w7⟩⟩
    · show zk (f_X1_readBracket (G_rd d) σ) _
      unfold f_X1_readBracket
      refine zk_ite (fun h8 => ?_) (fun _ => zk_some ⟨hσ, Or.inl rfl⟩)
      have g8 := zlt h8
      obtain ⟨B1, B2, B3, B4⟩ := id hB
      have ea := zadd (σ 7 6) 1 (by omega) (by omega)
      refine zk_let (fun s1 q1 => ?_)
      have h1 : IX s1 := by rw [q1]; exact IX.up hσ xk_7 trivial
      have u6 : s1 7 6 = σ 7 6 + 1 := by rw [q1]; exact zgot
      have u7 : s1 7 7 = σ 7 7 := by rw [q1]; exact zkeepf rfl
      refine zk_call (s_X1_advance s1 h1) (fun r2 s2 hp => ?_)
      obtain ⟨h2, a6, a7⟩ := hp
      have v6 := a6.trans u6
      have v7 := a7.trans u7
      refine zk_call (ih0 0 s2 h2 (by unfold rdB; rw [v6, v7]; omega) (by omega) (by omega) (by unfold rdN at hd ⊢; rw [v6, v7]; omega)) (fun r3 s3 hp => ?_)
      obtain ⟨h3, hx⟩ := hp
      refine zk_ite (fun _ => zk_some ⟨h3, Or.inl rfl⟩) (fun hn => ?_)
      obtain ⟨-, b6, b7⟩ := hx.resolve_left hn
      refine zk_call (s_X1_signHere s3 h3) (fun r4 t4 hp => ?_)
      subst hp
      refine zk_ite (fun _ => ?_) (fun _ => zk_some ⟨h3, Or.inl rfl⟩)
      refine zk_let (fun s4 q4 => ?_)
      have h4 : IX s4 := by rw [q4]; exact IX.up h3 xk_7 trivial
      have w6 : s4 7 6 = σ 7 6 := by rw [q4]; exact zgot.trans (by rw [b6, v6]; exact Int32.add_sub_cancel _ _)
      have w7 : s4 7 7 = σ 7 7 := by rw [q4]; exact (zkeepf rfl).trans (b7.trans v7)
      refine zk_call (s_X1_advance s4 h4) (fun r5 s5 hp => ?_)
      obtain ⟨h5, c6, c7⟩ := hp
      exact zk_some ⟨h5, Or.inr ⟨rfl, c6.trans w6, c7.trans w7⟩⟩

set_option maxHeartbeats 400000 in
theorem s_X5_begin (q0 : Nat) (a1 : Int32) (σ : zg_S) (hσ : IX σ) (hq0 : XL.2.1 q0 = 5) : zk (f_X5_begin q0 a1 σ) (fun r s => IX s ∧ s 7 6 = σ 7 6 ∧ s 7 7 = σ 7 7) := by
  unfold f_X5_begin
  refine zk_let (fun σ1 q2 => ?_)
  have hS1 : IX σ1 := by rw [q2]; exact IX.up hσ hq0 trivial
  have kp3 : σ1 7 6 = σ 7 6 := by rw [q2]; exact zkeep hq0 xk_7 rfl
  have kp4 : σ1 7 7 = σ 7 7 := by rw [q2]; exact zkeep hq0 xk_7 rfl
  refine zk_let (fun σ7 q6 => ?_)
  have hS5 : IX σ7 := by rw [q6]; exact IX.up hS1 hq0 trivial
  have kp7 : σ7 7 6 = σ1 7 6 := by rw [q6]; exact zkeep hq0 xk_7 rfl
  have kp8 : σ7 7 7 = σ1 7 7 := by rw [q6]; exact zkeep hq0 xk_7 rfl
  refine zk_let (fun σ13 q10 => ?_)
  have hS9 : IX σ13 := by rw [q10]; exact IX.up hS5 hq0 (xconT (zTl zt_0) ⟨by omega, by omega⟩)
  have kp11 : σ13 7 6 = σ7 7 6 := by rw [q10]; exact zkeep hq0 xk_7 rfl
  have kp12 : σ13 7 7 = σ7 7 7 := by rw [q10]; exact zkeep hq0 xk_7 rfl
  have e13 := zt_0
  exact zk_some ⟨hS9, (kp11.trans (kp7.trans (kp3.trans rfl))), (kp12.trans (kp8.trans (kp4.trans rfl)))⟩

theorem s_X1_readText (a1 : Int32) (σ : zg_S) (hσ : IX σ) : zk (f_X1_readText a1 σ) (fun _ s => IX s) := by
  unfold f_X1_readText
  have e0 := zt_0
  have e96 := zt_96
  refine zk_call (s_X6_held a1 0 96 σ hσ) (fun r s hp => ?_)
  obtain ⟨rfl, hh⟩ := hp
  have hr := hh (by omega)
  refine zk_let (fun s1 q1 => ?_)
  have h1 : IX s1 := by rw [q1]; exact IX.up hσ xk_7 ⟨by omega, by omega⟩
  refine zk_let (fun s2 q2 => ?_)
  have h2 : IX s2 := by rw [q2]; exact IX.up h1 xk_7 trivial
  refine zk_let (fun s3 q3 => ?_)
  have h3 : IX s3 := by rw [q3]; exact IX.up h2 xk_7 ⟨by omega, by omega⟩
  refine zk_let (fun s4 q4 => ?_)
  have h4 : IX s4 := by rw [q4]; exact IX.up h3 xk_7 trivial
  refine zk_let (fun s5 q5 => ?_)
  have h5 : IX s5 := by rw [q5]; exact IX.up h4 xk_7 trivial
  have u6 : s5 7 6 = 0 := by rw [q5]; exact (zkeepf rfl).trans (by rw [q4]; exact zgot)
  have u7 : s5 7 7 = 0 := by rw [q5]; exact zgot
  refine zk_call (s_X1_advance s5 h5) (fun r6 s6 hp => ?_)
  obtain ⟨h6, a6, a7⟩ := hp
  refine zk_call (s_X1_keyHere s6 h6) (fun r7 s7 hp => ?_)
  subst hp
  refine zk_ite (fun _ => zk_some h6) (fun _ => ?_)
  refine zk_call (s_X5_begin 8 r7 s6 h6 xk_8) (fun r8 s8 hp => ?_)
  obtain ⟨h8, b6, b7⟩ := hp
  refine zk_call (s_X1_advance s8 h8) (fun r9 s9 hp => ?_)
  obtain ⟨h9, c6, c7⟩ := hp
  have m6 : s9 7 6 = 0 := c6.trans (b6.trans (a6.trans u6))
  have m7 : s9 7 7 = 0 := c7.trans (b7.trans (a7.trans u7))
  refine zk_call ((s_G_rd 128).1 0 s9 h9 (by unfold rdB; rw [m6, m7]; decide) (by omega) (by omega) (by unfold rdN; rw [m6, m7]; decide)) (fun r10 s10 hp => ?_)
  obtain ⟨h10, _⟩ := hp
  exact zk_ite (fun _ => zk_some h10) (fun _ => zk_ite (fun _ => zk_some h10) (fun _ => zk_some h10))

set_option maxHeartbeats 400000 in
theorem s_X2_become (q0 : Nat) (a1 : Int32) (a2 : Int32) (σ : zg_S) (hσ : IX σ) (hq0 : XL.2.1 q0 = 2) : zk (f_X2_become q0 a1 a2 σ) (fun r s => IX s) := by
  unfold f_X2_become
  refine zk_let (fun σ15 q2 => ?_)
  have hS1 : IX σ15 := by rw [q2]; exact IX.up hσ hq0 trivial
  have e3 := zt_0
  have e4 := zt_24
  refine zk_call (s_X6_held a2 0 24 σ15 hS1 ) (fun r21 σ22 hp5 => ?_)
  obtain ⟨rfl, x6⟩ := hp5
  refine zk_let (fun σ28 q8 => ?_)
  have hS7 : IX σ28 := by rw [q8]; exact IX.up hS1 hq0 (xconT (zTs r21) ⟨by omega, by omega⟩)
  unfold L_X2_become_18
  refine zl_I (fun (x3 : Int32) (s18_ : zg_S) => IX s18_ ∧ 0 ≤ x3.toInt ∧ x3.toInt ≤ 24) (fun (x3 : Int32) (s18_ : zg_S) => (24 - x3.toInt).toNat) ?_ zfu 0 σ28 ⟨hS7, (by omega), (by omega)⟩ (by unfold zfu; omega)
  intro rec18_ x3 s18_ hI9 ih18_
  obtain ⟨hS10, i11, i12⟩ := hI9
  unfold B_X2_become_18
  refine zk_ite (fun h13 => ?_) (fun h13 => ?_)
  · have g14 := zle h13
    have e15 := zt_24
    exact zk_some hS10
  · have g16 := znle h13
    have e17 := zt_24
    have z18 : zin x3 24 = true := zin_mkT (zTs x3) (by omega) (by omega)
    refine zk_in z18 ?_
    refine zk_let (fun σ7 q20 => ?_)
    have hS19 : IX σ7 := by rw [q20]; exact IX.up hS10 (xH1 hq0) trivial
    exact ih18_ (x3 + 1) σ7 ⟨hS19, (by rw [zTe (zTadd (zTs x3) (zTl zt_1) (by omega) (by omega))]; omega), (by rw [zTe (zTadd (zTs x3) (zTl zt_1) (by omega) (by omega))]; omega)⟩ (by show (24 - (x3 + 1).toInt).toNat < (24 - x3.toInt).toNat; rw [zTe (zTadd (zTs x3) (zTl zt_1) (by omega) (by omega))]; omega)

theorem zl_big {a b c : Int32} (ha : 0 ≤ a.toInt) (hb : 0 ≤ b.toInt) (h : ¬ 0 < lg_cmp (a.toInt64 + b.toInt64) c.toInt64) : a.toInt + b.toInt ≤ c.toInt := by
  have e := lg_i2l_add a b
  have h2 : ¬ c.toInt64 < a.toInt64 + b.toInt64 := fun z => h ((lg_cmp_gt _ _).mpr z)
  rw [Int64.lt_iff_toInt_lt, e, Int32.toInt_toInt64] at h2
  omega
theorem s_X2_hasPlaces (q0 : Nat) (a1 a2 : Int32) (σ : zg_S) (hσ : IX σ) (hq0 : XL.2.1 q0 = 2) : zk (f_X2_hasPlaces q0 a1 a2 σ) (fun r s => σ = s ∧ (r = 0 ∨ (r = 1 ∧ 0 ≤ a1.toInt ∧ 0 ≤ a2.toInt ∧ a1.toInt + a2.toInt ≤ (σ q0 1).toInt))) := by
  unfold f_X2_hasPlaces
  have e0 := zt_0
  refine zk_ite (fun h => zk_some ⟨rfl, Or.inl rfl⟩) (fun h1 => ?_)
  refine zk_ite (fun h => zk_some ⟨rfl, Or.inl rfl⟩) (fun h2 => ?_)
  refine zk_ite (fun h => zk_some ⟨rfl, Or.inl rfl⟩) (fun h3 => ?_)
  have g1 := znlt h1
  have g2 := znlt h2
  exact zk_some ⟨rfl, Or.inr ⟨rfl, by omega, by omega, zl_big (by omega) (by omega) h3⟩⟩

set_option maxHeartbeats 400000 in
theorem s_X2_isMissing (q0 : Nat) (σ : zg_S) (hσ : IX σ) (hq0 : XL.2.1 q0 = 2) : zk (f_X2_isMissing q0 σ) (fun r s => σ = s ∧ (r = 0 ∨ r = 1)) := by
  unfold f_X2_isMissing
  refine zk_ite (fun h1 => ?_) (fun h1 => ?_)
  · have g2 := zeq h1
    have e3 := zt_m1
    have e4 := zt_1
    exact zk_some ⟨rfl, (by first | exact Or.inl rfl | exact Or.inr rfl | assumption | omega | exact Or.inr ⟨rfl, by omega, by omega⟩ | exact Or.inr ⟨by omega, by omega⟩)⟩
  · have g5 := zne h1
    have e6 := zt_m1
    have e7 := zt_0
    exact zk_some ⟨rfl, (by first | exact Or.inl rfl | exact Or.inr rfl | assumption | omega | exact Or.inr ⟨rfl, by omega, by omega⟩ | exact Or.inr ⟨by omega, by omega⟩)⟩

set_option maxHeartbeats 400000 in
theorem s_X2_takeOver (q0 : Nat) (q1 : Nat) (σ : zg_S) (hσ : IX σ) (hq0 : XL.2.1 q0 = 2) (hq1 : XL.2.1 q1 = 2) : zk (f_X2_takeOver q0 q1 σ) (fun r s => IX s) := by
  unfold f_X2_takeOver
  refine zk_let (fun σ1 q2 => ?_)
  have hS1 : IX σ1 := by rw [q2]; exact IX.up hσ hq0 trivial
  refine zk_let (fun σ7 q4 => ?_)
  have f5 : 0 ≤ (σ1 q1 1).toInt ∧ (σ1 q1 1).toInt ≤ 24 := IXf hS1 hq1 1
  have hS3 : IX σ7 := by rw [q4]; exact IX.up hS1 hq0 (xconT (zTs (σ1 q1 1)) ⟨by omega, by omega⟩)
  refine zk_ck (by first | assumption | decide | omega | assumption) ?_
  refine zk_let (fun σ19 q7 => ?_)
  have hS6 : IX σ19 := by rw [q7]; exact IX.row hS3 (xH1 hq0)
  exact zk_some hS6

set_option maxHeartbeats 400000 in
theorem s_X3_refuses (q0 : Nat) (a1 : Int32) (σ : zg_S) (hσ : IX σ) (hq0 : XL.2.1 q0 = 3) : zk (f_X3_refuses q0 a1 σ) (fun r s => σ = s) := by
  unfold f_X3_refuses
  refine zk_ite (fun h1 => ?_) (fun h1 => ?_)
  · have g2 := zeq h1
    have e3 := zt_0
    exact zk_some rfl
  · have g4 := zne h1
    have e5 := zt_0
    refine zk_ite (fun h6 => ?_) (fun h6 => ?_)
    · have g7 := zeq h6
      exact zk_some rfl
    · have g8 := zne h6
      exact zk_some rfl

