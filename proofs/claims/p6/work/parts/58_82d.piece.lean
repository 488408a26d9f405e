theorem nm_c (key c : Int32) (τ : zg_S) (hk : KY key) : (f_X7_isName key c τ = some (1, τ) ∧ 0 ≤ ixN key c ∧ sNo key c (-1 - ixN key c)) ∨ (f_X7_isName key c τ = some (0, τ) ∧ ¬ 0 ≤ ixN key c) := by
  have h10 : ¬ (1 : Int32) = 0 := by decide
  have h20 : ¬ (2 : Int32) = 0 := by decide
  have h21 : ¬ (2 : Int32) = 1 := by decide
  rcases hk with rfl | rfl | rfl
  · by_cases c1 : c = 104
    · subst c1; exact Or.inl ⟨rfl, by decide, by unfold sNo; decide⟩
    by_cases c2 : c = 103
    · subst c2; exact Or.inl ⟨rfl, by decide, by unfold sNo; decide⟩
    by_cases c3 : c = 112
    · subst c3; exact Or.inl ⟨rfl, by decide, by unfold sNo; decide⟩
    refine Or.inr ⟨?_, ?_⟩
    · unfold f_X7_isName; rw [if_pos rfl, if_neg c1, if_neg c2, if_neg c3]
    · unfold ixN; rw [if_pos rfl, if_neg c1, if_neg c2, if_neg c3]; decide
  · by_cases c1 : c = 99
    · subst c1; exact Or.inl ⟨rfl, by decide, by unfold sNo; decide⟩
    by_cases c2 : c = 116
    · subst c2; exact Or.inl ⟨rfl, by decide, by unfold sNo; decide⟩
    refine Or.inr ⟨?_, ?_⟩
    · unfold f_X7_isName; rw [if_neg h10, if_pos rfl, if_neg c1, if_neg c2]
    · unfold ixN; rw [if_neg h10, if_pos rfl, if_neg c1, if_neg c2]; decide
  · by_cases c1 : c = 103
    · subst c1; exact Or.inl ⟨rfl, by decide, by unfold sNo; decide⟩
    by_cases c2 : c = 115
    · subst c2; exact Or.inl ⟨rfl, by decide, by unfold sNo; decide⟩
    refine Or.inr ⟨?_, ?_⟩
    · unfold f_X7_isName; rw [if_neg h20, if_neg h21, if_neg c1, if_neg c2]
    · unfold ixN; rw [if_neg h20, if_neg h21, if_neg c1, if_neg c2]; decide
theorem e_isSign0 {c : Int32} {τ : zg_S} (h : ¬ (τ 0 17 = 3 ∧ τ 0 19 = c)) : f_X7_isSign c τ = some (0, τ) := by
  unfold f_X7_isSign
  by_cases h3 : τ 0 17 = 3
  · rw [if_pos h3, if_neg (fun z => h ⟨h3, z⟩)]
  · rw [if_neg h3]
theorem e_isSign1 {c : Int32} {τ : zg_S} (h : τ 0 17 = 3) (h' : τ 0 19 = c) : f_X7_isSign c τ = some (1, τ) := by
  unfold f_X7_isSign
  rw [if_pos h, if_pos h']
theorem z2_145 {o : Option (Int32 × zg_S)} {P : Int32 → zg_S → Int32 → zg_S → Prop} {rec : Nat → Int32 → zg_S → Option (Int32 × zg_S)} {key : Int32} {τ : zg_S} (hK : ¬ (τ 0 17 = 3 ∧ τ 0 19 = 40)) (h : z2 o (some (0, τ)) P) : z2 o (B_X7_part0_145 rec key τ) P := by
  unfold B_X7_part0_145
  exact z2_eR (e_isSign0 hK) (z2_pR rfl h)
theorem z2_84 {o : Option (Int32 × zg_S)} {P : Int32 → zg_S → Int32 → zg_S → Prop} {rec : Nat → Int32 → zg_S → Option (Int32 × zg_S)} {key : Int32} {τ : zg_S} (hK : ¬ (τ 0 17 = 3 ∧ τ 0 19 = 33)) (h : z2 o (B_X7_part0_145 rec key τ) P) : z2 o (B_X7_part0_84 rec key τ) P := by
  unfold B_X7_part0_84
  exact z2_eR (e_isSign0 hK) (z2_pR rfl h)
theorem PR.no {key : Int32} {σ τ : zg_S} (h : PR key σ τ) : RQ key τ 0 σ 0 τ := ⟨rfl, Or.inl ⟨rfl, h.2.1.1⟩⟩
theorem z2_name {key : Int32} {σ τ : zg_S} {rec : Nat → Int32 → zg_S → Option (Int32 × zg_S)} (hk : KY key) (h : PR key σ τ) (hK : τ 0 17 = 1) : z2 (f_X1_readName σ) (f_X7_part0 rec key τ) (RQ key τ) := by
  obtain ⟨hps, hT, hTP, hS, hO, hL⟩ := id h
  have e1 := zt_1
  have f14 : 0 ≤ (τ 0 14).toInt ∧ (τ 0 14).toInt ≤ 96 := hps.1 0 14
  obtain ⟨t1, t2, t3, t4, t5, t6, t7, tL, _⟩ := hT
  obtain ⟨d1, d2⟩ := tL hK
  have h3 : ∀ c : Int32, ¬ (τ 0 17 = 3 ∧ τ 0 19 = c) := fun c z => absurd (hK.symm.trans z.1) (by decide)
  have nB := ztn t4
  have es := zsubn (σ 7 5) (σ 7 4) (by rw [t3]; omega) (by rw [t1]; exact t4)
  rw [t3, t1] at es
  have no : z2 (some (0, σ)) (B_X7_part0_84 rec key τ) (RQ key τ) := z2_84 (h3 33) (z2_145 (h3 40) (z2_some h.no))
  have hm1 : ¬ (0 : Int32) ≤ -1 := by decide
  unfold f_X1_readName f_X7_part0
  refine z2_nR (by rw [hK]; decide) (z2_pR hK ?_)
  rw [t3, t1, hTP.1]
  rcases d2 with ⟨d2, d3⟩ | ⟨d2, d3⟩
  · have hlt : (τ 0 15).toInt < (τ 0 16).toInt := by omega
    obtain ⟨l1, l2, l3⟩ := d1 (τ 0 15).toNatClampNeg (by omega) (by omega)
    refine z2_pL (Int32.toInt_inj.mp (by rw [es]; omega)) (z2_nL (fun z => by have := zle z; omega) (z2_pL (zin_mk t4 (by omega)) ?_))
    rw [hTP.2 _ l1, hS.1]
    refine z2_eL (ix_e σ hk l2 l3) ?_
    unfold B_X1_readName_51
    refine z2_nR (fun z => ?_) ?_
    · rw [← d3, z] at l2
      exact absurd l2 (by decide)
    rw [← d3]
    rcases nm_c key (τ 0 19) τ hk with ⟨n1, n2, n3⟩ | ⟨n1, n2⟩
    · refine z2_eR n1 (z2_nR (by decide) (z2_pL n2 ?_))
      exact z2_leaf h (by rw [hK]; decide) (Or.inr (Or.inl ⟨rfl, n3⟩)) (fun s t hR hN => ⟨rfl, Or.inr ⟨rfl, hR, hN⟩⟩)
    · exact z2_eR n1 (z2_pR rfl (z2_nL n2 no))
  · refine z2_nL (fun z => d2 ?_) ?_
    · have := zeq z
      omega
    unfold B_X1_readName_50 B_X1_readName_51
    exact z2_nL hm1 (z2_pR d3 no)
/-- brackets, or nots, counted on both sides -/
theorem PR.u {key v : Int32} {σ τ s t : zg_S} {k k' : Nat} (h : PR key σ τ) (qs : s = zg_up σ 7 k v) (qt : t = zg_up τ 0 k' v) (hk : (k = 6 ∧ k' = 20) ∨ (k = 7 ∧ k' = 21)) (h0 : 0 ≤ v.toInt) (h8 : v.toInt ≤ 8) : PR key s t := by
  obtain ⟨hps, hT, hTP, hS, hO, hL⟩ := h
  have hps' : PS t := hps.u qt (hk.imp (fun z => z.2) (fun z => z.2)) h0 h8
  have rs : ∀ p, p ≠ 7 → s p = σ p := fun p hp => by rw [qs]; exact zg_row_ne hp
  have rt : ∀ p, p ≠ 0 → t p = τ p := fun p hp => by rw [qt]; exact zg_row_ne hp
  have ks : ∀ j, j ≠ k → s 7 j = σ 7 j := fun j hj => by rw [qs]; exact zkeepn hj
  have kt : ∀ j, j ≠ k' → t 0 j = τ 0 j := fun j hj => by rw [qt]; exact zkeepn hj
  have gs : s 7 k = v := by rw [qs]; exact zgot
  have gt : t 0 k' = v := by rw [qt]; exact zgot
  refine ⟨hps', ?_, ?_, hS.k (fun j => congrFun (rs 8 (by decide)) j) (fun j => congrFun (rs 9 (by decide)) j) (kt 22 (by omega)) (kt 23 (by omega)) (rt 1 (by decide)), ?_, ?_⟩
  · unfold TK tok
    rw [ks 4 (by omega), ks 3 (by omega), ks 5 (by omega), kt 14 (by omega), kt 15 (by omega), kt 16 (by omega), kt 17 (by omega), kt 18 (by omega), kt 19 (by omega), rt 13 (by decide)]
    exact hT
  · unfold TP
    rw [ks 2 (by omega), kt 14 (by omega), rt 13 (by decide), rs 6 (by decide)]
    exact hTP
  · unfold OP
    rcases hk with ⟨rfl, rfl⟩ | ⟨rfl, rfl⟩
    · exact ⟨gs.trans gt.symm, (ks 7 (by decide)).trans (hO.2.trans (kt 21 (by decide)).symm)⟩
    · exact ⟨(ks 6 (by decide)).trans (hO.1.trans (kt 20 (by decide)).symm), gs.trans gt.symm⟩
  · exact (congrFun (rs 8 (by decide)) 1).trans (hL.trans (kt 24 (by omega)).symm)
def LVL (dc dr : Nat) (z : Int32) (tag : Nat) : Prop := ∀ (key : Int32) (σ τ : zg_S), KY key → PR key σ τ → 6 - (tag : Int) + mN τ ≤ dr → 8 - (tag : Int) + mN τ ≤ dc → z2 (G_rd dc 0 z σ) (G_mp dr tag key τ) (RQ key τ)
def PCE (dc dr : Nat) : Prop := ∀ (key z0 : Int32) (σ τ : zg_S), KY key → PR key σ τ → 1 + mN τ ≤ dr → 2 + mN τ ≤ dc → z2 (G_rd dc 1 z0 σ) (G_mp dr 5 key τ) (RQ key τ)
theorem z2_not {key : Int32} {σ τ : zg_S} {dc dr : Nat} (hk : KY key) (h : PR key σ τ) (h3 : τ 0 17 = 3) (h19 : τ 0 19 = 33) (ih : PCE dc dr) (hr : mN τ ≤ dr) (hc : mN τ ≤ dc) : z2 (f_X1_readNot (G_rd dc) σ) (B_X7_part0_84 (G_mp dr) key τ) (RQ key τ) := by
  obtain ⟨hps, hT, hTP, hS, hO, hL⟩ := id h
  obtain ⟨q1, q2, q3, q4, q5, q6, q7, q8, q9, q10⟩ := hps
  have e1 := zt_1
  have e8 := zt_8
  have hlt := q5.resolve_left (by rw [h3]; decide)
  unfold f_X1_readNot B_X7_part0_84
  refine z2_eR (e_isSign1 h3 h19) (z2_nR (by decide) ?_)
  rw [hO.2]
  by_cases c8 : (8 : Int32) ≤ τ 0 21
  · have g := zle c8
    refine z2_pR c8 (z2_nL (fun z => by have := zlt z; omega) ?_)
    exact z2_145 (fun z => absurd (h19.symm.trans z.2) (by decide)) (z2_some h.no)
  · have g := znle c8
    refine z2_nR c8 (z2_pL (Int32.lt_iff_toInt_lt.mpr (by omega)) ?_)
    have ea := zTe (zTadd (zTs (τ 0 21)) (zTl zt_1) (by omega) (by omega))
    refine z2_lL (fun s1 qs1 => z2_lR (fun t1 qt1 => ?_))
    have p1 : PR key s1 t1 := h.u qs1 qt1 (Or.inr ⟨rfl, rfl⟩) (by rw [ea]; omega) (by rw [ea]; omega)
    have k21 : t1 0 21 = τ 0 21 + 1 := by rw [qt1]; exact zgot
    have kk : ∀ j, j ≠ 21 → t1 0 j = τ 0 j := fun j hj => by rw [qt1]; exact zkeepn hj
    refine z2_nx p1 (fun _ s2 _ t2 p2 k2 g2 => ?_)
    rw [kk 16 (by decide)] at g2
    have k22 : t2 0 22 = τ 0 22 := (k2.2 22 (by decide)).trans (kk 22 (by decide))
    have n2 : mN t2 = mN τ - 2 := by
      unfold mN
      rw [k2.2 20 (by decide), k2.2 21 (by decide), k21, kk 20 (by decide), ea]
      omega
    refine z2_cc (ih key 0 s2 t2 hk p2 (by omega) (by omega)) (fun r s3 r' t3 hq => ?_)
    obtain ⟨rfl, hq⟩ := hq
    rcases hq with ⟨rfl, hB⟩ | ⟨rfl, p3, m1, m2, m3, m20, m21⟩
    · exact z2_pL rfl (z2_pR rfl (z2_some ⟨rfl, Or.inl ⟨rfl, hB⟩⟩))
    · refine z2_nL (by decide) (z2_nR (by decide) ?_)
      have e21 : t3 0 21 = τ 0 21 + 1 := m21.trans ((k2.2 21 (by decide)).trans k21)
      have ev : t3 0 21 - 1 = τ 0 21 := by rw [e21]; exact Int32.add_sub_cancel _ _
      rw [p3.2.2.2.2.1.2, ev]
      refine z2_lL (fun s5 qs5 => z2_lR (fun t5 qt5 => ?_))
      have p5 : PR key s5 t5 := p3.u qs5 qt5 (Or.inr ⟨rfl, rfl⟩) q9 q10
      have k5 : ∀ j, j ≠ 21 → t5 0 j = t3 0 j := fun j hj => by rw [qt5]; exact zkeepn hj
      have k521 : t5 0 21 = τ 0 21 := by rw [qt5]; exact zgot
      have h522 := congrArg Int32.toInt (k5 22 (by decide))
      have h515 := congrArg Int32.toInt (k5 15 (by decide))
      have g22 := congrArg Int32.toInt k22
      have k520 : t5 0 20 = τ 0 20 := (k5 20 (by decide)).trans (m20.trans ((k2.2 20 (by decide)).trans (kk 20 (by decide))))
      exact z2_step (τ0 := τ) p5 (Or.inr (Or.inr (Or.inl ⟨rfl, rfl, rfl⟩))) (by omega) (by omega) (by omega) (by omega) k520 k521 (fun _ s6 _ t6 p6 n6 _ => z2_some ⟨rfl, Or.inr ⟨rfl, p6, n6⟩⟩)
theorem c_sign {key : Int32} {σ τ : zg_S} (h : PR key σ τ) : f_X1_signHere σ = some (if τ 0 17 = 3 then τ 0 19 else -1000000005, σ) := by
  obtain ⟨hps, hT, hTP, hS, hO, hL⟩ := h
  have f14 : 0 ≤ (τ 0 14).toInt ∧ (τ 0 14).toInt ≤ 96 := hps.1 0 14
  obtain ⟨t1, t2, t3, t4, t5, t6, t7, _, _, tS⟩ := hT
  have e0 := zt_0
  have e95 := zt_95
  unfold f_X1_signHere
  rw [t2]
  by_cases c : τ 0 17 = 3
  · obtain ⟨d1, d2⟩ := tS c
    have nB := ztn t4
    rw [if_pos c, if_pos c, t1, c_within1 σ ⟨by omega, by omega⟩]
    show (if (1 : Int32) = 0 then some ((-1000000005 : Int32), σ) else (if zin (σ 7 4) 96 = true then some (σ 6 (Int32.toNatClampNeg (σ 7 4)), σ) else none)) = _
    rw [if_neg (by decide), t1, if_pos (zin_mk t4 (by omega)), hTP.2 _ (by omega), d2]
  · rw [if_neg c, if_neg c]
theorem z2_bracket {key : Int32} {σ τ : zg_S} {dc dr : Nat} (hk : KY key) (h : PR key σ τ) (h3 : τ 0 17 = 3) (h19 : τ 0 19 = 40) (ih : LVL dc dr 0 0) (hr : mN τ ≤ dr) (hc : mN τ ≤ dc) : z2 (f_X1_readBracket (G_rd dc) σ) (B_X7_part0_145 (G_mp dr) key τ) (RQ key τ) := by
  obtain ⟨hps, hT, hTP, hS, hO, hL⟩ := id h
  obtain ⟨q1, q2, q3, q4, q5, q6, q7, q8, q9, q10⟩ := hps
  have e1 := zt_1
  have e8 := zt_8
  have hlt := q5.resolve_left (by rw [h3]; decide)
  unfold f_X1_readBracket B_X7_part0_145
  refine z2_eR (e_isSign1 h3 h19) (z2_nR (by decide) ?_)
  rw [hO.1]
  by_cases c8 : τ 0 20 = 8
  · have g := zeq c8
    exact z2_pR c8 (z2_nL (fun z => by have := zlt z; omega) (z2_some h.no))
  · have g := zne c8
    refine z2_nR c8 (z2_pL (Int32.lt_iff_toInt_lt.mpr (by omega)) ?_)
    have ea := zTe (zTadd (zTs (τ 0 20)) (zTl zt_1) (by omega) (by omega))
    refine z2_lL (fun s1 qs1 => z2_lR (fun t1 qt1 => ?_))
    have p1 : PR key s1 t1 := h.u qs1 qt1 (Or.inl ⟨rfl, rfl⟩) (by rw [ea]; omega) (by rw [ea]; omega)
    have k20 : t1 0 20 = τ 0 20 + 1 := by rw [qt1]; exact zgot
    have kk : ∀ j, j ≠ 20 → t1 0 j = τ 0 j := fun j hj => by rw [qt1]; exact zkeepn hj
    refine z2_nx p1 (fun _ s2 _ t2 p2 k2 g2 => ?_)
    rw [kk 16 (by decide)] at g2
    have k22 : t2 0 22 = τ 0 22 := (k2.2 22 (by decide)).trans (kk 22 (by decide))
    have n2 : mN t2 = mN τ - 8 := by
      unfold mN
      rw [k2.2 20 (by decide), k2.2 21 (by decide), k20, kk 21 (by decide), ea]
      omega
    refine z2_cc (ih key s2 t2 hk p2 (by omega) (by omega)) (fun r s3 r' t3 hq => ?_)
    obtain ⟨rfl, hq⟩ := hq
    rcases hq with ⟨rfl, hB⟩ | ⟨rfl, p3, m1, m2, m3, m20, m21⟩
    · exact z2_pL rfl (z2_pR rfl (z2_some ⟨rfl, Or.inl ⟨rfl, hB⟩⟩))
    · refine z2_nL (by decide) (z2_nR (by decide) (z2_eL (c_sign p3) ?_))
      by_cases c41 : t3 0 17 = 3 ∧ t3 0 19 = 41
      · refine z2_eR (e_isSign1 c41.1 c41.2) (z2_nR (by decide) (z2_pL (by rw [if_pos c41.1]; exact c41.2) ?_))
        have e20 : t3 0 20 = τ 0 20 + 1 := m20.trans ((k2.2 20 (by decide)).trans k20)
        have ev : t3 0 20 - 1 = τ 0 20 := by rw [e20]; exact Int32.add_sub_cancel _ _
        rw [p3.2.2.2.2.1.1, ev]
        refine z2_lL (fun s5 qs5 => z2_lR (fun t5 qt5 => ?_))
        have p5 : PR key s5 t5 := p3.u qs5 qt5 (Or.inl ⟨rfl, rfl⟩) q7 q8
        have k5 : ∀ j, j ≠ 20 → t5 0 j = t3 0 j := fun j hj => by rw [qt5]; exact zkeepn hj
        have k520 : t5 0 20 = τ 0 20 := by rw [qt5]; exact zgot
        have h522 := congrArg Int32.toInt (k5 22 (by decide))
        have h515 := congrArg Int32.toInt (k5 15 (by decide))
        have h516 := congrArg Int32.toInt (k5 16 (by decide))
        have g22 := congrArg Int32.toInt k22
        have q33 := p3.1.2.2.1
        refine z2_nx p5 (fun _ s6 _ t6 p6 k6 g6 => z2_some ⟨rfl, Or.inr ⟨rfl, p6, ?_⟩⟩)
        have k622 := congrArg Int32.toInt (k6.2 22 (by decide))
        exact ⟨by omega, by omega, by omega, (k6.2 20 (by decide)).trans k520, (k6.2 21 (by decide)).trans ((k5 21 (by decide)).trans (m21.trans ((k2.2 21 (by decide)).trans (kk 21 (by decide)))))⟩
      · refine z2_eR (e_isSign0 c41) (z2_pR rfl (z2_nL (fun z => ?_) (z2_some ⟨rfl, Or.inl ⟨rfl, p3.2.1.1⟩⟩)))
        by_cases c3 : t3 0 17 = 3
        · rw [if_pos c3] at z
          exact c41 ⟨c3, z⟩
        · rw [if_neg c3] at z
          exact absurd z (by decide)
theorem z2_wrap {o o' : Option (Int32 × zg_S)} {key : Int32} {τ : zg_S} (h : z2 o o' (RQ key τ)) : z2 (zbd o (fun r s => if r = 0 ∨ r = 1 then some (r, s) else none)) o' (RQ key τ) := by
  obtain ⟨r, s, r', t, rfl, rfl, hq⟩ := h
  refine z2_pL ?_ (z2_some hq)
  exact hq.2.imp (fun z => z.1) (fun z => z.1)
theorem pce_s {dr : Nat} (ih : ∀ dc, LVL dc dr 0 0 ∧ PCE dc dr) : ∀ dc, PCE dc (dr + 1) := by
  intro dc key z0 σ τ hk h hr hc
  have hn := h.1.n
  obtain ⟨e, rfl⟩ : ∃ e, dc = e + 2 := ⟨dc - 2, by omega⟩
  obtain ⟨ih0, ih5⟩ := ih e
  show z2 (f_X1_readPiece (G_rd (e + 1)) σ) (f_X7_part0 (G_mp dr) key τ) (RQ key τ)
  unfold f_X1_readPiece
  have t2 := h.2.1.2.1
  rw [t2]
  by_cases k1 : τ 0 17 = 1
  · exact z2_pL k1 (z2_wrap (z2_name hk h k1))
  by_cases k2 : τ 0 17 = 2
  · refine z2_nL k1 (z2_pL k2 (z2_wrap (z2_number h k2 ?_)))
    unfold f_X7_part0
    exact z2_pR k2 (z2_leaf h (by rw [k2]; decide) (number_SR h k2) (fun s t hR hN => ⟨rfl, Or.inr ⟨rfl, hR, hN⟩⟩))
  refine z2_nL k1 (z2_nL k2 (z2_eL (c_sign h) ?_))
  unfold f_X7_part0
  refine z2_nR k2 (z2_nR k1 ?_)
  by_cases c33 : τ 0 17 = 3 ∧ τ 0 19 = 33
  · refine z2_pL (by rw [if_pos c33.1]; exact c33.2) (z2_wrap ?_)
    exact z2_not hk h c33.1 c33.2 ih5 (by omega) (by omega)
  · refine z2_nL (fun z => ?_) ?_
    · by_cases c3 : τ 0 17 = 3
      · rw [if_pos c3] at z
        exact c33 ⟨c3, z⟩
      · rw [if_neg c3] at z
        exact absurd z (by decide)
    refine z2_84 c33 ?_
    by_cases c40 : τ 0 17 = 3 ∧ τ 0 19 = 40
    · refine z2_pL (by rw [if_pos c40.1]; exact c40.2) (z2_wrap ?_)
      exact z2_bracket hk h c40.1 c40.2 ih0 (by omega) (by omega)
    · refine z2_nL (fun z => ?_) (z2_145 c40 (z2_some h.no))
      by_cases c3 : τ 0 17 = 3
      · rw [if_pos c3] at z
        exact c40 ⟨c3, z⟩
      · rw [if_neg c3] at z
        exact absurd z (by decide)
