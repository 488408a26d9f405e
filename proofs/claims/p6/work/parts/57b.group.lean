theorem PS.u {s t : zg_S} {v : Int32} {k : Nat} (h : PS s) (q : t = zg_up s 0 k v) (hk : k = 20 ∨ k = 21) (h0 : 0 ≤ v.toInt) (h8 : v.toInt ≤ 8) : PS t := by
  obtain ⟨hσ, hb, h1, h2, h3, h4, h5, h6, h7, h8'⟩ := h
  have kk : ∀ j, j ≠ k → t 0 j = s 0 j := fun j hj => by rw [q]; exact zkeepn hj
  have g : t 0 k = v := by rw [q]; exact zgot
  have hi : IMc t := by
    rw [q]
    rcases hk with rfl | rfl
    · exact IMc.up hσ (zTs _) trivial
    · exact IMc.up hσ (zTs _) trivial
  refine ⟨hi, ?_, ?_, ?_, ?_, ?_, ?_, ?_, ?_, ?_⟩
  · unfold sB
    rw [kk 22 (by omega), kk 23 (by omega)]
    exact hb
  · rw [kk 15 (by omega), kk 16 (by omega)]
    exact h1
  · rw [kk 16 (by omega), kk 14 (by omega)]
    exact h2
  · rw [kk 17 (by omega), kk 15 (by omega), kk 16 (by omega)]
    exact h3
  · rw [kk 22 (by omega), kk 15 (by omega)]
    exact h4
  · rcases hk with rfl | rfl
    · rw [g]; exact h0
    · rw [kk 20 (by omega)]; exact h5
  · rcases hk with rfl | rfl
    · rw [g]; exact h8
    · rw [kk 20 (by omega)]; exact h6
  · rcases hk with rfl | rfl
    · rw [kk 21 (by omega)]; exact h7
    · rw [g]; exact h0
  · rcases hk with rfl | rfl
    · rw [kk 21 (by omega)]; exact h8'
    · rw [g]; exact h8
theorem mF.u {s t : zg_S} {v : Int32} {k : Nat} (q : t = zg_up s 0 k v) (hk : k = 20 ∨ k = 21) : mF s t := ⟨fun p h0 _ => by rw [q]; exact zg_row_ne h0, fun j hj => by rw [q]; exact zkeepn (by omega), fun j _ => by rw [q]; exact congrFun (zg_row_ne (by decide)) j⟩
theorem mp_bracket (d : Nat) (z0 : Int32) (σ : zg_S) (hp : PS σ) (hd : mN σ ≤ d) (ih : ∀ s, PS s → 6 + mN s ≤ d → zk (G_mp d 0 z0 s) (mQ s)) : zk (B_X7_part0_145 (G_mp d) z0 σ) (mQ σ) := by
  have e1 := zt_1
  have l0 := hp.2.1.1
  have hlo : BD σ σ := ⟨hp.1, ⟨fun _ _ _ => rfl, fun _ _ => rfl, fun _ _ => rfl⟩, Int.le_refl _, hp.2.1.2.1, by have := hp.2.2.1; have := hp.2.2.2.1; omega⟩
  unfold B_X7_part0_145
  refine zk_call (m_isSign 40 σ) (fun r s hq => ?_)
  obtain ⟨rfl, hs⟩ := hq
  refine zk_ite (fun _ => zk_some ⟨hlo, Or.inl rfl⟩) (fun h1 => ?_)
  obtain ⟨-, h3, -⟩ := hs.resolve_left (fun z => h1 z.1)
  refine zk_ite (fun _ => zk_some ⟨hlo, Or.inl rfl⟩) (fun h8 => ?_)
  obtain ⟨_, _, b1, b2, b3, b4, b5, b6, b7, b8⟩ := id hp
  have h8' := zne h8
  have e8 := zt_8
  have hlt := b3.resolve_left (fun z => absurd (h3.symm.trans z) (by decide))
  have ea := zTe (zTadd (zTs (σ 0 20)) (zTl zt_1) (by omega) (by omega))
  refine zk_let (fun s1 q1 => ?_)
  have p1 : PS s1 := hp.u q1 (Or.inl rfl) (by rw [ea]; omega) (by rw [ea]; omega)
  have f1 : mF σ s1 := mF.u q1 (Or.inl rfl)
  have k20 : s1 0 20 = σ 0 20 + 1 := by rw [q1]; exact zgot
  have kk : ∀ j, j ≠ 20 → s1 0 j = σ 0 j := fun j hj => by rw [q1]; exact zkeepn hj
  have r1 : s1 1 = σ 1 := by rw [q1]; exact zup_ne rfl
  refine nx p1 (fun _ s2 p2 t2 _ g2 => ?_)
  have m1 : ml s1 = ml σ := congrArg Int32.toNatClampNeg (kk 22 (by decide))
  have m2 : ml s2 = ml σ := (congrArg Int32.toNatClampNeg (t2.2 22 (by decide))).trans m1
  have f2 : mF σ s2 := f1.tr t2.mF (by rw [m1]; exact Nat.le_refl _)
  have k22 : s2 0 22 = σ 0 22 := (t2.2 22 (by decide)).trans (kk 22 (by decide))
  have n2 : mN s2 = mN σ - 8 := by
    unfold mN
    rw [t2.2 20 (by decide), t2.2 21 (by decide), k20, kk 21 (by decide), ea]
    omega
  rw [kk 16 (by decide)] at g2
  refine zk_call (ih s2 p2 (by omega)) (fun r3 s3 hq => ?_)
  obtain ⟨hB, hr⟩ := hq
  have hB3 : BD σ s3 := BD.tr l0 f2 (by rw [k22]; exact Int.le_refl _) hB
  refine zk_ite (fun _ => zk_some ⟨hB3, Or.inl rfl⟩) (fun hn => ?_)
  obtain ⟨-, p3, f3, c1, c2, c3, c20, c21, hd3⟩ := hr.resolve_left hn
  refine zk_call (m_isSign 41 s3) (fun r4 s4 hq => ?_)
  obtain ⟨rfl, hs4⟩ := hq
  refine zk_ite (fun _ => zk_some ⟨hB3, Or.inl rfl⟩) (fun h4 => ?_)
  refine zk_let (fun s5 q5 => ?_)
  have e20 : s3 0 20 = σ 0 20 + 1 := c20.trans ((t2.2 20 (by decide)).trans k20)
  have ev : s3 0 20 - 1 = σ 0 20 := by rw [e20]; exact Int32.add_sub_cancel _ _
  have p5 : PS s5 := p3.u q5 (Or.inl rfl) (by rw [ev]; exact b5) (by rw [ev]; exact b6)
  have f5 : mF s3 s5 := mF.u q5 (Or.inl rfl)
  have k5 : ∀ j, j ≠ 20 → s5 0 j = s3 0 j := fun j hj => by rw [q5]; exact zkeepn hj
  have k520 : s5 0 20 = σ 0 20 := by rw [q5]; exact zgot.trans ev
  have r5 : s5 1 = s3 1 := by rw [q5]; exact zup_ne rfl
  have f23 : mF σ s3 := f2.tr f3 (by rw [m2]; exact Nat.le_refl _)
  have g22 := congrArg Int32.toInt k22
  have l23 : ml σ ≤ ml s3 := ml_le l0 (by omega)
  have f25 : mF σ s5 := f23.tr f5 l23
  have m5 : ml s5 = ml s3 := congrArg Int32.toNatClampNeg (k5 22 (by decide))
  have h522 := congrArg Int32.toInt (k5 22 (by decide))
  have h515 := congrArg Int32.toInt (k5 15 (by decide))
  have h516 := congrArg Int32.toInt (k5 16 (by decide))
  refine nx p5 (fun _ s6 p6 t6 _ g6 => ?_)
  have k622 := congrArg Int32.toInt (t6.2 22 (by decide))
  have m6 : ml s6 = ml s3 := (congrArg Int32.toNatClampNeg (t6.2 22 (by decide))).trans m5
  have q3 := p3.2.2.1
  have hG : GD σ s6 := by
    refine ⟨p6, f25.tr t6.mF (by rw [m5]; exact l23), by omega, by omega, by omega, (t6.2 20 (by decide)).trans k520, (t6.2 21 (by decide)).trans ((k5 21 (by decide)).trans (c21.trans ((t2.2 21 (by decide)).trans (kk 21 (by decide))))), fun dd => ?_⟩
    have a := hd3 dd
    rw [m2, mb_eq f2] at a
    rw [m6, t6.1 1 (by decide), r5]
    exact a
  exact zk_some ⟨hG.bd, Or.inr ⟨rfl, hG⟩⟩
theorem mp_not (d : Nat) (z0 : Int32) (σ : zg_S) (hp : PS σ) (hd : mN σ ≤ d) (ih0 : ∀ s, PS s → 6 + mN s ≤ d → zk (G_mp d 0 z0 s) (mQ s)) (ih5 : ∀ s, PS s → 1 + mN s ≤ d → zk (G_mp d 5 z0 s) (mQ s)) : zk (B_X7_part0_84 (G_mp d) z0 σ) (mQ σ) := by
  have e1 := zt_1
  have e8 := zt_8
  have l0 := hp.2.1.1
  unfold B_X7_part0_84
  refine zk_call (m_isSign 33 σ) (fun r s hq => ?_)
  obtain ⟨rfl, hs⟩ := hq
  refine zk_ite (fun _ => mp_bracket d z0 σ hp hd ih0) (fun h1 => ?_)
  obtain ⟨-, h3, -⟩ := hs.resolve_left (fun z => h1 z.1)
  refine zk_ite (fun _ => mp_bracket d z0 σ hp hd ih0) (fun h8 => ?_)
  obtain ⟨_, _, b1, b2, b3, b4, b5, b6, b7, b8⟩ := id hp
  have h8' := znle h8
  have hlt := b3.resolve_left (fun z => absurd (h3.symm.trans z) (by decide))
  have ea := zTe (zTadd (zTs (σ 0 21)) (zTl zt_1) (by omega) (by omega))
  refine zk_let (fun s1 q1 => ?_)
  have p1 : PS s1 := hp.u q1 (Or.inr rfl) (by rw [ea]; omega) (by rw [ea]; omega)
  have f1 : mF σ s1 := mF.u q1 (Or.inr rfl)
  have k21 : s1 0 21 = σ 0 21 + 1 := by rw [q1]; exact zgot
  have kk : ∀ j, j ≠ 21 → s1 0 j = σ 0 j := fun j hj => by rw [q1]; exact zkeepn hj
  refine nx p1 (fun _ s2 p2 t2 _ g2 => ?_)
  have m1 : ml s1 = ml σ := congrArg Int32.toNatClampNeg (kk 22 (by decide))
  have m2 : ml s2 = ml σ := (congrArg Int32.toNatClampNeg (t2.2 22 (by decide))).trans m1
  have f2 : mF σ s2 := f1.tr t2.mF (by rw [m1]; exact Nat.le_refl _)
  have k22 : s2 0 22 = σ 0 22 := (t2.2 22 (by decide)).trans (kk 22 (by decide))
  have n2 : mN s2 = mN σ - 2 := by
    unfold mN
    rw [t2.2 20 (by decide), t2.2 21 (by decide), k21, kk 20 (by decide), ea]
    omega
  rw [kk 16 (by decide)] at g2
  refine zk_call (ih5 s2 p2 (by omega)) (fun r3 s3 hq => ?_)
  obtain ⟨hB, hr⟩ := hq
  have hB3 : BD σ s3 := BD.tr l0 f2 (by rw [k22]; exact Int.le_refl _) hB
  refine zk_ite (fun _ => zk_some ⟨hB3, Or.inl rfl⟩) (fun hn => ?_)
  obtain ⟨-, p3, f3, c1, c2, c3, c20, c21, hd3⟩ := hr.resolve_left hn
  refine zk_let (fun s5 q5 => ?_)
  have e21 : s3 0 21 = σ 0 21 + 1 := c21.trans ((t2.2 21 (by decide)).trans k21)
  have ev : s3 0 21 - 1 = σ 0 21 := by rw [e21]; exact Int32.add_sub_cancel _ _
  have p5 : PS s5 := p3.u q5 (Or.inr rfl) (by rw [ev]; exact b7) (by rw [ev]; exact b8)
  have f5 : mF s3 s5 := mF.u q5 (Or.inr rfl)
  have k5 : ∀ j, j ≠ 21 → s5 0 j = s3 0 j := fun j hj => by rw [q5]; exact zkeepn hj
  have k521 : s5 0 21 = σ 0 21 := by rw [q5]; exact zgot.trans ev
  have r5 : s5 1 = s3 1 := by rw [q5]; exact zup_ne rfl
  have f23 : mF σ s3 := f2.tr f3 (by rw [m2]; exact Nat.le_refl _)
  have g22 := congrArg Int32.toInt k22
  have l23 : ml σ ≤ ml s3 := ml_le l0 (by omega)
  have f25 : mF σ s5 := f23.tr f5 l23
  have m5 : ml s5 = ml s3 := congrArg Int32.toNatClampNeg (k5 22 (by decide))
  have h522 := congrArg Int32.toInt (k5 22 (by decide))
  have h515 := congrArg Int32.toInt (k5 15 (by decide))
  have k520 : s5 0 20 = σ 0 20 := (k5 20 (by decide)).trans (c20.trans ((t2.2 20 (by decide)).trans (kk 20 (by decide))))
  refine jn l0 p5 f25 (by omega) (by omega) (by omega) (by omega) k520 k521 (fun dd => ⟨dd + 1, ?_, Or.inl ⟨rfl, rfl⟩⟩) (fun r t hg _ => zk_some ⟨hg.bd, Or.inr ⟨rfl, hg⟩⟩)
  have a := hd3 dd
  rw [m2, mb_eq f2] at a
  rw [m5, r5]
  exact a
theorem s_G_mp : ∀ (d tag : Nat) (z0 : Int32) (σ : zg_S), tag ≤ 5 → PS σ → 6 - (tag : Int) + mN σ ≤ d → zk (G_mp d tag z0 σ) (mQ σ) := by
  intro d
  induction d with
  | zero => intro tag z0 σ ht hp hd; have := hp.n; omega
  | succ d ih =>
    intro tag z0 σ ht hp hd
    have l0 := hp.2.1.1
    match tag, ht, hd with
    | 0, _, hd =>
      show zk (f_X7_either (G_mp d) z0 σ) (mQ σ)
      unfold f_X7_either
      refine zk_call (ih 1 z0 σ (by decide) hp (by omega)) (fun r s hq => ?_)
      obtain ⟨hB, hr⟩ := hq
      refine zk_ite (fun _ => zk_some ⟨hB, Or.inl rfl⟩) (fun hn => ?_)
      have hG := (hr.resolve_left hn).2
      have f15 : 0 ≤ (s 0 15).toInt ∧ (s 0 15).toInt ≤ 96 := hG.1.1 0 15
      unfold L_X7_either_10
      refine zl_0 (fun t => GD σ t) (fun t => (97 - (t 0 15).toInt).toNat) ?_ zfu s hG (by unfold zfu; show (97 - (s 0 15).toInt).toNat < 100000; omega)
      intro rec t hT ihl
      have f15 : 0 ≤ (t 0 15).toInt ∧ (t 0 15).toInt ≤ 96 := hT.1.1 0 15
      unfold B_X7_either_10
      refine zk_call (m_isSign 124 t) (fun r1 t1 hq => ?_)
      obtain ⟨rfl, hs⟩ := hq
      refine zk_ite (fun _ => zk_some ⟨hT.bd, Or.inr ⟨rfl, hT⟩⟩) (fun h1 => ?_)
      obtain ⟨-, h3, -⟩ := hs.resolve_left (fun z => h1 z.1)
      exact join l0 hT h3 (by decide) (fun u pu k20 k21 => ih 1 z0 u (by decide) pu (by rw [mN_eq k20 k21]; omega)) (fun u hu => ⟨hu, Or.inl rfl⟩) (fun r u hG hlt => ihl u hG (by show (97 - (u 0 15).toInt).toNat < (97 - (t 0 15).toInt).toNat; omega))
    | 1, _, hd =>
      show zk (f_X7_both (G_mp d) z0 σ) (mQ σ)
      unfold f_X7_both
      refine zk_call (ih 2 z0 σ (by decide) hp (by omega)) (fun r s hq => ?_)
      obtain ⟨hB, hr⟩ := hq
      refine zk_ite (fun _ => zk_some ⟨hB, Or.inl rfl⟩) (fun hn => ?_)
      have hG := (hr.resolve_left hn).2
      have f15 : 0 ≤ (s 0 15).toInt ∧ (s 0 15).toInt ≤ 96 := hG.1.1 0 15
      unfold L_X7_both_10
      refine zl_0 (fun t => GD σ t) (fun t => (97 - (t 0 15).toInt).toNat) ?_ zfu s hG (by unfold zfu; show (97 - (s 0 15).toInt).toNat < 100000; omega)
      intro rec t hT ihl
      have f15 : 0 ≤ (t 0 15).toInt ∧ (t 0 15).toInt ≤ 96 := hT.1.1 0 15
      unfold B_X7_both_10
      refine zk_call (m_isSign 38 t) (fun r1 t1 hq => ?_)
      obtain ⟨rfl, hs⟩ := hq
      refine zk_ite (fun _ => zk_some ⟨hT.bd, Or.inr ⟨rfl, hT⟩⟩) (fun h1 => ?_)
      obtain ⟨-, h3, -⟩ := hs.resolve_left (fun z => h1 z.1)
      exact join l0 hT h3 (by decide) (fun u pu k20 k21 => ih 2 z0 u (by decide) pu (by rw [mN_eq k20 k21]; omega)) (fun u hu => ⟨hu, Or.inl rfl⟩) (fun r u hG hlt => ihl u hG (by show (97 - (u 0 15).toInt).toNat < (97 - (t 0 15).toInt).toNat; omega))
    | 2, _, hd =>
      show zk (f_X7_test (G_mp d) z0 σ) (mQ σ)
      unfold f_X7_test
      refine zk_call (ih 3 z0 σ (by decide) hp (by omega)) (fun r s hq => ?_)
      obtain ⟨hB, hr⟩ := hq
      refine zk_ite (fun _ => zk_some ⟨hB, Or.inl rfl⟩) (fun hn => ?_)
      have hG := (hr.resolve_left hn).2
      have hj : s 0 17 = 3 → ¬ s 0 19 = 33 → zk (B_X7_test_37 (G_mp d) z0 s) (mQ σ) := fun h3 hc => by
        unfold B_X7_test_37
        exact join l0 hG h3 hc (fun u pu k20 k21 => ih 3 z0 u (by decide) pu (by rw [mN_eq k20 k21]; omega)) (fun u hu => ⟨hu, Or.inl rfl⟩) (fun r u hG hlt => zk_some ⟨hG.bd, Or.inr ⟨rfl, hG⟩⟩)
      refine zk_call (m_isSign 60 s) (fun r1 t1 hq => ?_)
      obtain ⟨rfl, hs⟩ := hq
      refine zk_ite (fun _ => ?_) (fun h1 => ?_)
      · refine zk_call (m_isSign 61 s) (fun r1 t1 hq => ?_)
        obtain ⟨rfl, hs⟩ := hq
        refine zk_ite (fun _ => ?_) (fun h1 => ?_)
        · refine zk_call (m_isSign 62 s) (fun r1 t1 hq => ?_)
          obtain ⟨rfl, hs⟩ := hq
          refine zk_ite (fun _ => zk_some ⟨hG.bd, Or.inr ⟨rfl, hG⟩⟩) (fun h1 => ?_)
          obtain ⟨-, h3, h4⟩ := hs.resolve_left (fun z => h1 z.1)
          exact hj h3 (by rw [h4]; decide)
        · obtain ⟨-, h3, h4⟩ := hs.resolve_left (fun z => h1 z.1)
          exact hj h3 (by rw [h4]; decide)
      · obtain ⟨-, h3, h4⟩ := hs.resolve_left (fun z => h1 z.1)
        exact hj h3 (by rw [h4]; decide)
    | 3, _, hd =>
      show zk (f_X7_sum (G_mp d) z0 σ) (mQ σ)
      unfold f_X7_sum
      refine zk_call (ih 4 z0 σ (by decide) hp (by omega)) (fun r s hq => ?_)
      obtain ⟨hB, hr⟩ := hq
      refine zk_ite (fun _ => zk_some ⟨hB, Or.inl rfl⟩) (fun hn => ?_)
      have hG := (hr.resolve_left hn).2
      have f15 : 0 ≤ (s 0 15).toInt ∧ (s 0 15).toInt ≤ 96 := hG.1.1 0 15
      unfold L_X7_sum_10
      refine zl_0 (fun t => GD σ t) (fun t => (97 - (t 0 15).toInt).toNat) ?_ zfu s hG (by unfold zfu; show (97 - (s 0 15).toInt).toNat < 100000; omega)
      intro rec t hT ihl
      have f15 : 0 ≤ (t 0 15).toInt ∧ (t 0 15).toInt ≤ 96 := hT.1.1 0 15
      have hj : t 0 17 = 3 → ¬ t 0 19 = 33 → zk (B_X7_sum_28 (G_mp d) z0 rec t) (mQ σ) := fun h3 hc => by
        unfold B_X7_sum_28
        exact join l0 hT h3 hc (fun u pu k20 k21 => ih 4 z0 u (by decide) pu (by rw [mN_eq k20 k21]; omega)) (fun u hu => ⟨hu, Or.inl rfl⟩) (fun r u hG hlt => ihl u hG (by show (97 - (u 0 15).toInt).toNat < (97 - (t 0 15).toInt).toNat; omega))
      unfold B_X7_sum_10
      refine zk_call (m_isSign 43 t) (fun r1 t1 hq => ?_)
      obtain ⟨rfl, hs⟩ := hq
      refine zk_ite (fun _ => ?_) (fun h1 => ?_)
      · refine zk_call (m_isSign 45 t) (fun r1 t1 hq => ?_)
        obtain ⟨rfl, hs⟩ := hq
        refine zk_ite (fun _ => zk_some ⟨hT.bd, Or.inr ⟨rfl, hT⟩⟩) (fun h1 => ?_)
        obtain ⟨-, h3, h4⟩ := hs.resolve_left (fun z => h1 z.1)
        exact hj h3 (by rw [h4]; decide)
      · obtain ⟨-, h3, h4⟩ := hs.resolve_left (fun z => h1 z.1)
        exact hj h3 (by rw [h4]; decide)
    | 4, _, hd =>
      show zk (f_X7_term (G_mp d) z0 σ) (mQ σ)
      unfold f_X7_term
      refine zk_call (ih 5 z0 σ (by decide) hp (by omega)) (fun r s hq => ?_)
      obtain ⟨hB, hr⟩ := hq
      refine zk_ite (fun _ => zk_some ⟨hB, Or.inl rfl⟩) (fun hn => ?_)
      have hG := (hr.resolve_left hn).2
      have f15 : 0 ≤ (s 0 15).toInt ∧ (s 0 15).toInt ≤ 96 := hG.1.1 0 15
      unfold L_X7_term_10
      refine zl_0 (fun t => GD σ t) (fun t => (97 - (t 0 15).toInt).toNat) ?_ zfu s hG (by unfold zfu; show (97 - (s 0 15).toInt).toNat < 100000; omega)
      intro rec t hT ihl
      have f15 : 0 ≤ (t 0 15).toInt ∧ (t 0 15).toInt ≤ 96 := hT.1.1 0 15
      have hj : t 0 17 = 3 → ¬ t 0 19 = 33 → zk (B_X7_term_28 (G_mp d) z0 rec t) (mQ σ) := fun h3 hc => by
        unfold B_X7_term_28
        exact join l0 hT h3 hc (fun u pu k20 k21 => ih 5 z0 u (by decide) pu (by rw [mN_eq k20 k21]; omega)) (fun u hu => ⟨hu, Or.inl rfl⟩) (fun r u hG hlt => ihl u hG (by show (97 - (u 0 15).toInt).toNat < (97 - (t 0 15).toInt).toNat; omega))
      unfold B_X7_term_10
      refine zk_call (m_isSign 42 t) (fun r1 t1 hq => ?_)
      obtain ⟨rfl, hs⟩ := hq
      refine zk_ite (fun _ => ?_) (fun h1 => ?_)
      · refine zk_call (m_isSign 47 t) (fun r1 t1 hq => ?_)
        obtain ⟨rfl, hs⟩ := hq
        refine zk_ite (fun _ => zk_some ⟨hT.bd, Or.inr ⟨rfl, hT⟩⟩) (fun h1 => ?_)
        obtain ⟨-, h3, h4⟩ := hs.resolve_left (fun z => h1 z.1)
        exact hj h3 (by rw [h4]; decide)
      · obtain ⟨-, h3, h4⟩ := hs.resolve_left (fun z => h1 z.1)
        exact hj h3 (by rw [h4]; decide)
    | 5, _, hd =>
      show zk (f_X7_part0 (G_mp d) z0 σ) (mQ σ)
      have hN : zk (B_X7_part0_84 (G_mp d) z0 σ) (mQ σ) := mp_not d z0 σ hp (by omega) (fun s ps hs => ih 0 z0 s (by decide) ps (by omega)) (fun s ps hs => ih 5 z0 s (by decide) ps (by omega))
      unfold f_X7_part0
      refine zk_ite (fun h2 => ?_) (fun _ => ?_)
      · exact lf hp (by rw [h2]; decide) (Or.inl rfl) (fun s hG => ⟨hG.bd, Or.inr ⟨rfl, hG⟩⟩)
      · refine zk_ite (fun h1 => ?_) (fun _ => hN)
        refine zk_ite (fun _ => hN) (fun _ => ?_)
        refine zk_call (m_isName z0 (σ 0 19) σ) (fun r s hq => ?_)
        obtain ⟨rfl, hr⟩ := hq
        refine zk_ite (fun _ => hN) (fun hn => ?_)
        exact lf hp (by rw [h1]; decide) (Or.inr ⟨rfl, (hr.resolve_left hn).2⟩) (fun s hG => ⟨hG.bd, Or.inr ⟨rfl, hG⟩⟩)
