set_option maxHeartbeats 400000 in
theorem s_X7_deal (a1 : Int32) (σ : zg_S) (hσ : IMc σ)  : zk (f_X7_deal a1 σ) (fun r s => IMc s ∧ hi σ s) := by
  unfold f_X7_deal
  have j1 := zI64 a1
  have j2 := zI64 1
  have e3 := zt_1
  have j4 := zI64 9
  have e5 := zt_9
  refine zk_call (s_X7_isIn (Int32.toInt64 a1) (Int32.toInt64 1) (Int32.toInt64 9) σ hσ ) (fun r41 σ42 hp6 => ?_)
  obtain ⟨rfl, x7⟩ := hp6
  refine zk_ite (fun h11 => ?_) (fun h11 => ?_)
  · have g12 := zeq h11
    have e13 := zt_0
    exact zk_some ⟨hσ, hi.rf⟩
  · have g14 := zne h11
    have e15 := zt_0
    obtain ⟨_d8, _d9, _d10⟩ := x7.resolve_left h11
    unfold L_X7_deal_17
    refine zl_I (fun (x2 : Int32) (s17_ : zg_S) => IMc s17_ ∧ hi σ s17_ ∧ 0 ≤ x2.toInt ∧ x2.toInt ≤ 9) (fun (x2 : Int32) (s17_ : zg_S) => (9 - x2.toInt).toNat) ?_ zfu 0 σ ⟨hσ, hi.rf, (by omega), (by omega)⟩ (by unfold zfu; omega)
    intro rec17_ x2 s17_ hI16 ih17_
    obtain ⟨hS17, hH18, i19, i20⟩ := hI16
    unfold B_X7_deal_17
    refine zk_ite (fun h21 => ?_) (fun h21 => ?_)
    · have g22 := zle h21
      exact zk_some ⟨hS17, hH18⟩
    · have g23 := znle h21
      refine zk_ite (fun h24 => ?_) (fun h24 => ?_)
      · have g25 := zle h24
        have e26 := zt_9
        have f27 : 0 ≤ (s17_ 1 0).toInt ∧ (s17_ 1 0).toInt ≤ 9 := IMf hS17 1 0
        exact zk_some ⟨hS17, hH18⟩
      · have g28 := znle h24
        have e29 := zt_9
        have f30 : 0 ≤ (s17_ 1 0).toInt ∧ (s17_ 1 0).toInt ≤ 9 := IMf hS17 1 0
        refine zk_call (s_X7_drawn s17_ hS17 ) (fun r7 σ8 hp31 => ?_)
        obtain ⟨hS33, hH34, x32⟩ := hp31
        refine zk_call (s_X7_drawn σ8 hS33 ) (fun r16 σ17 hp35 => ?_)
        obtain ⟨hS37, hH38, x36⟩ := hp35
        refine zk_call (s_X7_drawn σ17 hS37 ) (fun r25 σ26 hp39 => ?_)
        obtain ⟨hS41, hH42, x40⟩ := hp39
        have g43 := congrArg Int32.toInt (x40.trans (x36.trans (x32.trans rfl)))
        have f44 : 0 ≤ (σ26 1 0).toInt ∧ (σ26 1 0).toInt ≤ 9 := IMf hS41 1 0
        refine zk_call (s_X7_comes (r7 - r7 / 6 * 6) (r16 - r16 / 12 * 12) (r25 - r25 / 40 * 40) σ26 hS41 (by omega)) (fun r32 σ33 hp45 => ?_)
        obtain ⟨hS46, hH47⟩ := hp45
        exact ih17_ (x2 + 1) σ33 ⟨hS46, ((((hH18.tr hH34).tr hH38).tr hH42).tr hH47), (by rw [zTe (zTadd (zTs x2) (zTl zt_1) (by omega) (by omega))]; omega), (by rw [zTe (zTadd (zTs x2) (zTl zt_1) (by omega) (by omega))]; omega)⟩ (by show (9 - (x2 + 1).toInt).toNat < (9 - x2.toInt).toNat; rw [zTe (zTadd (zTs x2) (zTl zt_1) (by omega) (by omega))]; omega)

set_option maxHeartbeats 400000 in
theorem s_X7_fee  (σ : zg_S) (hσ : IMc σ) (hW : WF (σ 1)) : zk (f_X7_fee  σ) (fun r s => IMc s ∧ hi σ s) := by
  unfold f_X7_fee
  have e1 := zt_1
  refine zk_call (s_X7_counts 1 σ hσ ) (fun r1 σ2 hp2 => ?_)
  obtain ⟨rfl, x3, x4⟩ := hp2
  have f5 : 0 ≤ (σ 1 1).toInt ∧ (σ 1 1).toInt ≤ 14 := IMf hσ 1 1
  refine zk_ite (fun h6 => ?_) (fun h6 => ?_)
  · have g7 := zle h6
    have e8 := zt_0
    refine zk_let (fun σ12 q11 => ?_)
    have hS9 : IMc σ12 := by rw [q11]; exact IMc.up hσ (zTs (σ 1 3)) trivial
    have hH10 : hi σ σ12 := by rw [q11]; exact hi.upo hi.rf rfl
    refine zk_let (fun σ18 q14 => ?_)
    have hS12 : IMc σ18 := by rw [q14]; exact IMc.up hS9 (zTs (σ12 1 5)) trivial
    have hH13 : hi σ σ18 := by rw [q14]; exact hi.upo hH10 rfl
    have f15 : 0 ≤ (σ18 1 1).toInt ∧ (σ18 1 1).toInt ≤ 14 := IMf hS12 1 1
    have g16 := congrArg Int32.toInt (hH13).1
    refine zk_call (s_X7_worked r1 σ18 hS12 (WF.hi hW hH13) (by omega) (by omega)) (fun r24 σ25 hp17 => ?_)
    obtain ⟨hS18, hH19⟩ := hp17
    exact zk_some ⟨hS18, (hH13.tr hH19)⟩
  · have g20 := znle h6
    have e21 := zt_0
    exact zk_some ⟨hσ, hi.rf⟩

set_option maxHeartbeats 400000 in
theorem s_X7_feed (a1 : Int32) (a2 : Int32) (a3 : Int32) (σ : zg_S) (hσ : IMc σ)  : zk (f_X7_feed a1 a2 a3 σ) (fun r s => IMc s ∧ hi σ s) := by
  unfold f_X7_feed
  refine zk_ite (fun h1 => ?_) (fun h1 => ?_)
  · have g2 := zle h1
    have f3 : 0 ≤ (σ 0 14).toInt ∧ (σ 0 14).toInt ≤ 96 := IMf hσ 0 14
    have e4 := zt_12
    have e5 := zadd (σ 0 14) 12 (by omega) (by omega)
    have e6 := zt_96
    have e7 := zt_0
    unfold L_X7_feed_18
    refine zl_I (fun (x4 : Int32) (s18_ : zg_S) => IMc s18_ ∧ hi σ s18_ ∧ 0 ≤ x4.toInt ∧ x4.toInt ≤ 12 ∧ (s18_ 0 14).toInt ≤ 84 + x4.toInt) (fun (x4 : Int32) (s18_ : zg_S) => (12 - x4.toInt).toNat) ?_ zfu 0 σ ⟨hσ, hi.rf, (by omega), (by omega), (by omega)⟩ (by unfold zfu; omega)
    intro rec18_ x4 s18_ hI8 ih18_
    obtain ⟨hS9, hH10, i11, i12, i13⟩ := hI8
    unfold B_X7_feed_18
    refine zk_ite (fun h14 => ?_) (fun h14 => ?_)
    · have g15 := zle h14
      have e16 := zt_12
      exact zk_some ⟨hS9, hH10⟩
    · have g17 := znle h14
      have e18 := zt_12
      refine zk_ite (fun h19 => ?_) (fun h19 => ?_)
      · have g20 := zle h19
        have e21 := zt_4
        refine zk_ite (fun h22 => ?_) (fun h22 => ?_)
        · have g23 := zle h22
          have e24 := zt_8
          unfold B_X7_feed_47
          refine zk_let (fun y3 ey25 => ?_)
          have f26 : 0 ≤ (s18_ 0 14).toInt ∧ (s18_ 0 14).toInt ≤ 96 := IMf hS9 0 14
          have z27 : zin (s18_ 0 14) 96 = true := zin_mkT (zTs (s18_ 0 14)) (by omega) (by omega)
          refine zk_in z27 ?_
          refine zk_let (fun σ9 q30 => ?_)
          have hS28 : IMc σ9 := by rw [q30]; exact IMc.up hS9 (zTs y3) trivial
          have hH29 : hi σ σ9 := by rw [q30]; exact hi.upo hH10 rfl
          have kp31 : σ9 0 14 = s18_ 0 14 := by rw [q30]; exact congrFun (zup_ne rfl) 14
          refine zk_let (fun σ15 q34 => ?_)
          have g35 := congrArg Int32.toInt (kp31.trans rfl)
          have f36 : 0 ≤ (σ9 0 14).toInt ∧ (σ9 0 14).toInt ≤ 96 := IMf hS28 0 14
          have hS32 : IMc σ15 := by rw [q34]; exact IMc.up hS28 (zTadd (zTs (σ9 0 14)) (zTl zt_1) (by omega) (by omega)) ⟨by omega, by omega⟩
          have g37 : (σ15 0 14).toInt = ((σ9 0 14).toInt + 1) := by rw [q34]; exact (congrArg Int32.toInt zgot).trans (zTe (zTadd (zTs (σ9 0 14)) (zTl zt_1) (by omega) (by omega)))
          have hH33 : hi σ σ15 := by rw [q34]; exact hi.up0 hH29 rfl
          exact ih18_ (x4 + 1) σ15 ⟨hS32, hH33, (by rw [zTe (zTadd (zTs x4) (zTl zt_1) (by omega) (by omega))]; omega), (by rw [zTe (zTadd (zTs x4) (zTl zt_1) (by omega) (by omega))]; omega), (by rw [zTe (zTadd (zTs x4) (zTl zt_1) (by omega) (by omega))]; omega)⟩ (by show (12 - (x4 + 1).toInt).toNat < (12 - x4.toInt).toNat; rw [zTe (zTadd (zTs x4) (zTl zt_1) (by omega) (by omega))]; omega)
        · have g38 := znle h22
          have e39 := zt_8
          unfold B_X7_feed_47
          refine zk_let (fun y3 ey40 => ?_)
          have f41 : 0 ≤ (s18_ 0 14).toInt ∧ (s18_ 0 14).toInt ≤ 96 := IMf hS9 0 14
          have z42 : zin (s18_ 0 14) 96 = true := zin_mkT (zTs (s18_ 0 14)) (by omega) (by omega)
          refine zk_in z42 ?_
          refine zk_let (fun σ9 q45 => ?_)
          have hS43 : IMc σ9 := by rw [q45]; exact IMc.up hS9 (zTs y3) trivial
          have hH44 : hi σ σ9 := by rw [q45]; exact hi.upo hH10 rfl
          have kp46 : σ9 0 14 = s18_ 0 14 := by rw [q45]; exact congrFun (zup_ne rfl) 14
          refine zk_let (fun σ15 q49 => ?_)
          have g50 := congrArg Int32.toInt (kp46.trans rfl)
          have f51 : 0 ≤ (σ9 0 14).toInt ∧ (σ9 0 14).toInt ≤ 96 := IMf hS43 0 14
          have hS47 : IMc σ15 := by rw [q49]; exact IMc.up hS43 (zTadd (zTs (σ9 0 14)) (zTl zt_1) (by omega) (by omega)) ⟨by omega, by omega⟩
          have g52 : (σ15 0 14).toInt = ((σ9 0 14).toInt + 1) := by rw [q49]; exact (congrArg Int32.toInt zgot).trans (zTe (zTadd (zTs (σ9 0 14)) (zTl zt_1) (by omega) (by omega)))
          have hH48 : hi σ σ15 := by rw [q49]; exact hi.up0 hH44 rfl
          exact ih18_ (x4 + 1) σ15 ⟨hS47, hH48, (by rw [zTe (zTadd (zTs x4) (zTl zt_1) (by omega) (by omega))]; omega), (by rw [zTe (zTadd (zTs x4) (zTl zt_1) (by omega) (by omega))]; omega), (by rw [zTe (zTadd (zTs x4) (zTl zt_1) (by omega) (by omega))]; omega)⟩ (by show (12 - (x4 + 1).toInt).toNat < (12 - x4.toInt).toNat; rw [zTe (zTadd (zTs x4) (zTl zt_1) (by omega) (by omega))]; omega)
      · have g53 := znle h19
        have e54 := zt_4
        unfold B_X7_feed_47
        refine zk_let (fun y3 ey55 => ?_)
        have f56 : 0 ≤ (s18_ 0 14).toInt ∧ (s18_ 0 14).toInt ≤ 96 := IMf hS9 0 14
        have z57 : zin (s18_ 0 14) 96 = true := zin_mkT (zTs (s18_ 0 14)) (by omega) (by omega)
        refine zk_in z57 ?_
        refine zk_let (fun σ9 q60 => ?_)
        have hS58 : IMc σ9 := by rw [q60]; exact IMc.up hS9 (zTs y3) trivial
        have hH59 : hi σ σ9 := by rw [q60]; exact hi.upo hH10 rfl
        have kp61 : σ9 0 14 = s18_ 0 14 := by rw [q60]; exact congrFun (zup_ne rfl) 14
        refine zk_let (fun σ15 q64 => ?_)
        have g65 := congrArg Int32.toInt (kp61.trans rfl)
        have f66 : 0 ≤ (σ9 0 14).toInt ∧ (σ9 0 14).toInt ≤ 96 := IMf hS58 0 14
        have hS62 : IMc σ15 := by rw [q64]; exact IMc.up hS58 (zTadd (zTs (σ9 0 14)) (zTl zt_1) (by omega) (by omega)) ⟨by omega, by omega⟩
        have g67 : (σ15 0 14).toInt = ((σ9 0 14).toInt + 1) := by rw [q64]; exact (congrArg Int32.toInt zgot).trans (zTe (zTadd (zTs (σ9 0 14)) (zTl zt_1) (by omega) (by omega)))
        have hH63 : hi σ σ15 := by rw [q64]; exact hi.up0 hH59 rfl
        exact ih18_ (x4 + 1) σ15 ⟨hS62, hH63, (by rw [zTe (zTadd (zTs x4) (zTl zt_1) (by omega) (by omega))]; omega), (by rw [zTe (zTadd (zTs x4) (zTl zt_1) (by omega) (by omega))]; omega), (by rw [zTe (zTadd (zTs x4) (zTl zt_1) (by omega) (by omega))]; omega)⟩ (by show (12 - (x4 + 1).toInt).toNat < (12 - x4.toInt).toNat; rw [zTe (zTadd (zTs x4) (zTl zt_1) (by omega) (by omega))]; omega)
  · have g68 := znle h1
    have f69 : 0 ≤ (σ 0 14).toInt ∧ (σ 0 14).toInt ≤ 96 := IMf hσ 0 14
    have e70 := zt_12
    have e71 := zadd (σ 0 14) 12 (by omega) (by omega)
    have e72 := zt_96
    exact zk_some ⟨hσ, hi.rf⟩

set_option maxHeartbeats 400000 in
theorem s_X7_fine (a1 : Int32) (σ : zg_S) (hσ : IMc σ) (hW : WF (σ 1)) : zk (f_X7_fine a1 σ) (fun r s => IMc s ∧ hi σ s) := by
  unfold f_X7_fine
  refine zk_call (s_X7_isStall a1 σ hσ ) (fun r17 σ18 hp1 => ?_)
  obtain ⟨rfl, x2⟩ := hp1
  have f3 : 0 ≤ (σ 1 0).toInt ∧ (σ 1 0).toInt ≤ 9 := IMf hσ 1 0
  refine zk_ite (fun h7 => ?_) (fun h7 => ?_)
  · have g8 := zeq h7
    have e9 := zt_0
    exact zk_some ⟨hσ, hi.rf⟩
  · have g10 := zne h7
    have e11 := zt_0
    obtain ⟨_d4, _d5, _d6⟩ := x2.resolve_left h7
    have e12 := zt_2
    refine zk_call (s_X7_counts 2 σ hσ ) (fun r26 σ27 hp13 => ?_)
    obtain ⟨rfl, x14, x15⟩ := hp13
    have f16 : 0 ≤ (σ 1 1).toInt ∧ (σ 1 1).toInt ≤ 14 := IMf hσ 1 1
    refine zk_ite (fun h17 => ?_) (fun h17 => ?_)
    · have g18 := zle h17
      refine zk_call (s_X7_of a1 2 σ hσ (by omega) (by omega) (by omega) (by omega)) (fun r37 σ38 hp19 => ?_)
      subst hp19
      refine zk_let (fun σ44 q22 => ?_)
      have hS20 : IMc σ44 := by rw [q22]; exact IMc.up hσ (zTs r37) trivial
      have hH21 : hi σ σ44 := by rw [q22]; exact hi.upo hi.rf rfl
      refine zk_call (s_X7_isShaded a1 σ44 hS20 (by omega) (by omega)) (fun r50 σ51 hp23 => ?_)
      obtain ⟨rfl, x24⟩ := hp23
      refine zk_ite (fun h25 => ?_) (fun h25 => ?_)
      · have g26 := zeq h25
        unfold B_X7_fine_60
        have z27 : zin 115 128 = true := zin_mkT (zTl zt_115) (by omega) (by omega)
        refine zk_in z27 ?_
        refine zk_let (fun σ4 q30 => ?_)
        have hS28 : IMc σ4 := by rw [q30]; exact IMc.up hS20 (zTs 0) trivial
        have hH29 : hi σ σ4 := by rw [q30]; exact hi.upo hH21 rfl
        have f31 : 0 ≤ (σ4 1 1).toInt ∧ (σ4 1 1).toInt ≤ 14 := IMf hS28 1 1
        have g32 := congrArg Int32.toInt (hH29).1
        refine zk_call (s_X7_worked r26 σ4 hS28 (WF.hi hW hH29) (by omega) (by omega)) (fun r10 σ11 hp33 => ?_)
        obtain ⟨hS34, hH35⟩ := hp33
        exact zk_some ⟨hS34, (hH29.tr hH35)⟩
      · have g36 := zne h25
        unfold B_X7_fine_60
        have z37 : zin 115 128 = true := zin_mkT (zTl zt_115) (by omega) (by omega)
        refine zk_in z37 ?_
        refine zk_let (fun σ4 q40 => ?_)
        have hS38 : IMc σ4 := by rw [q40]; exact IMc.up hS20 (zTs 1) trivial
        have hH39 : hi σ σ4 := by rw [q40]; exact hi.upo hH21 rfl
        have f41 : 0 ≤ (σ4 1 1).toInt ∧ (σ4 1 1).toInt ≤ 14 := IMf hS38 1 1
        have g42 := congrArg Int32.toInt (hH39).1
        refine zk_call (s_X7_worked r26 σ4 hS38 (WF.hi hW hH39) (by omega) (by omega)) (fun r10 σ11 hp43 => ?_)
        obtain ⟨hS44, hH45⟩ := hp43
        exact zk_some ⟨hS44, (hH39.tr hH45)⟩
    · have g46 := znle h17
      refine zk_call (s_X7_of a1 2 σ hσ (by omega) (by omega) (by omega) (by omega)) (fun r61 σ62 hp47 => ?_)
      subst hp47
      exact zk_some ⟨hσ, hi.rf⟩

