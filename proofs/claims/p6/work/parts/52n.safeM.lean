set_option maxHeartbeats 400000 in
theorem s_X7_stall (a1 : Int32) (a2 : Int32) (a3 : Int32) (σ : zg_S) (hσ : IMc σ)  : zk (f_X7_stall a1 a2 a3 σ) (fun r s => IMc s ∧ hi σ s) := by
  unfold f_X7_stall
  have j1 := zI64 a1
  have j2 := zI64 0
  have e3 := zt_0
  have j4 := zI64 5
  have e5 := zt_5
  refine zk_call (s_X7_isIn (Int32.toInt64 a1) (Int32.toInt64 0) (Int32.toInt64 5) σ hσ ) (fun r1 σ2 hp6 => ?_)
  obtain ⟨rfl, x7⟩ := hp6
  refine zk_ite (fun h11 => ?_) (fun h11 => ?_)
  · have g12 := zeq h11
    exact zk_some ⟨hσ, hi.rf⟩
  · have g13 := zne h11
    obtain ⟨_d8, _d9, _d10⟩ := x7.resolve_left h11
    have j14 := zI64 a2
    have j15 := zI64 11
    have e16 := zt_11
    refine zk_call (s_X7_isIn (Int32.toInt64 a2) (Int32.toInt64 0) (Int32.toInt64 11) σ hσ ) (fun r11 σ12 hp17 => ?_)
    obtain ⟨rfl, x18⟩ := hp17
    refine zk_ite (fun h22 => ?_) (fun h22 => ?_)
    · have g23 := zeq h22
      exact zk_some ⟨hσ, hi.rf⟩
    · have g24 := zne h22
      obtain ⟨_d19, _d20, _d21⟩ := x18.resolve_left h22
      have j25 := zI64 a3
      have j26 := zI64 99
      have e27 := zt_99
      refine zk_call (s_X7_isIn (Int32.toInt64 a3) (Int32.toInt64 0) (Int32.toInt64 99) σ hσ ) (fun r21 σ22 hp28 => ?_)
      obtain ⟨rfl, x29⟩ := hp28
      refine zk_ite (fun h33 => ?_) (fun h33 => ?_)
      · have g34 := zeq h33
        exact zk_some ⟨hσ, hi.rf⟩
      · have g35 := zne h33
        obtain ⟨_d30, _d31, _d32⟩ := x29.resolve_left h33
        refine zk_ite (fun h36 => ?_) (fun h36 => ?_)
        · have g37 := zeq h36
          have f38 : 0 ≤ (σ 1 0).toInt ∧ (σ 1 0).toInt ≤ 9 := IMf hσ 1 0
          have e39 := zt_9
          exact zk_some ⟨hσ, hi.rf⟩
        · have g40 := zne h36
          have f41 : 0 ≤ (σ 1 0).toInt ∧ (σ 1 0).toInt ≤ 9 := IMf hσ 1 0
          have e42 := zt_9
          refine zk_call (s_X7_comes a1 a2 a3 σ hσ (by omega)) (fun r32 σ33 hp43 => ?_)
          obtain ⟨hS44, hH45⟩ := hp43
          exact zk_some ⟨hS44, (hi.rf.tr hH45)⟩

set_option maxHeartbeats 400000 in
theorem s_X7_tell (a1 : Int32) (σ : zg_S) (hσ : IMc σ)  : zk (f_X7_tell a1 σ) (fun r s => IMc s ∧ hi σ s) := by
  unfold f_X7_tell
  refine zk_ite (fun h1 => ?_) (fun h1 => ?_)
  · have g2 := zeq h1
    have f3 : 0 ≤ (σ 0 29).toInt ∧ (σ 0 29).toInt ≤ 60 := IMf hσ 0 29
    have e4 := zt_60
    exact zk_some ⟨hσ, hi.rf⟩
  · have g5 := zne h1
    have f6 : 0 ≤ (σ 0 29).toInt ∧ (σ 0 29).toInt ≤ 60 := IMf hσ 0 29
    have e7 := zt_60
    have z8 : zin (σ 0 29) 60 = true := zin_mkT (zTs (σ 0 29)) (by omega) (by omega)
    refine zk_in z8 ?_
    refine zk_let (fun σ6 q11 => ?_)
    have hS9 : IMc σ6 := by rw [q11]; exact IMc.up hσ (zTs a1) trivial
    have hH10 : hi σ σ6 := by rw [q11]; exact hi.upo hi.rf rfl
    have kp12 : σ6 0 29 = σ 0 29 := by rw [q11]; exact congrFun (zup_ne rfl) 29
    refine zk_let (fun σ12 q15 => ?_)
    have g16 := congrArg Int32.toInt (kp12.trans rfl)
    have f17 : 0 ≤ (σ6 0 29).toInt ∧ (σ6 0 29).toInt ≤ 60 := IMf hS9 0 29
    have hS13 : IMc σ12 := by rw [q15]; exact IMc.up hS9 (zTadd (zTs (σ6 0 29)) (zTl zt_1) (by omega) (by omega)) ⟨by omega, by omega⟩
    have g18 : (σ12 0 29).toInt = ((σ6 0 29).toInt + 1) := by rw [q15]; exact (congrArg Int32.toInt zgot).trans (zTe (zTadd (zTs (σ6 0 29)) (zTl zt_1) (by omega) (by omega)))
    have hH14 : hi σ σ12 := by rw [q15]; exact hi.up0 hH10 rfl
    exact zk_some ⟨hS13, hH14⟩

set_option maxHeartbeats 400000 in
theorem s_X7_textTold (a1 : Int32) (a2 : Int32) (σ : zg_S) (hσ : IMc σ)  : zk (f_X7_textTold a1 a2 σ) (fun r s => σ = s) := by
  unfold f_X7_textTold
  refine zk_call (s_X7_isText a1 σ hσ ) (fun r1 σ2 hp1 => ?_)
  obtain ⟨rfl, x2⟩ := hp1
  have f3 : 0 ≤ (σ 1 1).toInt ∧ (σ 1 1).toInt ≤ 14 := IMf hσ 1 1
  refine zk_ite (fun h7 => ?_) (fun h7 => ?_)
  · have g8 := zeq h7
    have e9 := zt_0
    exact zk_some rfl
  · have g10 := zne h7
    have e11 := zt_0
    obtain ⟨_d4, _d5, _d6⟩ := x2.resolve_left h7
    have j12 := zI64 a2
    have j13 := zI64 0
    have j14 := zI64 1
    have e15 := zt_1
    refine zk_call (s_X7_isIn (Int32.toInt64 a2) (Int32.toInt64 0) (Int32.toInt64 1) σ hσ ) (fun r11 σ12 hp16 => ?_)
    obtain ⟨rfl, x17⟩ := hp16
    refine zk_ite (fun h21 => ?_) (fun h21 => ?_)
    · have g22 := zeq h21
      exact zk_some rfl
    · have g23 := zne h21
      obtain ⟨_d18, _d19, _d20⟩ := x17.resolve_left h21
      refine zk_call (s_X7_textAt a1 σ hσ (by omega) (by omega)) (fun r20 σ21 hp24 => ?_)
      obtain ⟨rfl, x25⟩ := hp24
      have z26 : zin (r20 + a2) 3047 = true := zin_mkT (zTadd (zTs r20) (zTs a2) (by omega) (by omega)) (by omega) (by omega)
      refine zk_in z26 ?_
      exact zk_some rfl

set_option maxHeartbeats 400000 in
theorem s_X7_told (a1 : Int32) (a2 : Int32) (σ : zg_S) (hσ : IMc σ) (hW : WF (σ 1)) : zk (f_X7_told a1 a2 σ) (fun r s => IMc s ∧ hi σ s) := by
  unfold f_X7_told
  refine zk_call (s_X7_isStall a1 σ hσ ) (fun r8 σ9 hp1 => ?_)
  obtain ⟨rfl, x2⟩ := hp1
  have f3 : 0 ≤ (σ 1 0).toInt ∧ (σ 1 0).toInt ≤ 9 := IMf hσ 1 0
  refine zk_ite (fun h7 => ?_) (fun h7 => ?_)
  · have g8 := zeq h7
    have e9 := zt_0
    exact zk_some ⟨hσ, hi.rf⟩
  · have g10 := zne h7
    have e11 := zt_0
    obtain ⟨_d4, _d5, _d6⟩ := x2.resolve_left h7
    refine zk_ite (fun h12 => ?_) (fun h12 => ?_)
    · have g13 := zeq h12
      unfold B_X7_told_56
      refine zk_call (s_X7_of a1 a2 σ hσ (by omega) (by omega) (by omega) (by omega)) (fun r1 σ2 hp14 => ?_)
      subst hp14
      exact zk_some ⟨hσ, hi.rf⟩
    · have g15 := zne h12
      refine zk_ite (fun h16 => ?_) (fun h16 => ?_)
      · have g17 := zeq h16
        have e18 := zt_1
        unfold B_X7_told_56
        refine zk_call (s_X7_of a1 a2 σ hσ (by omega) (by omega) (by omega) (by omega)) (fun r1 σ2 hp19 => ?_)
        subst hp19
        exact zk_some ⟨hσ, hi.rf⟩
      · have g20 := zne h16
        have e21 := zt_1
        refine zk_ite (fun h22 => ?_) (fun h22 => ?_)
        · have g23 := zeq h22
          have e24 := zt_2
          unfold B_X7_told_56
          refine zk_call (s_X7_of a1 a2 σ hσ (by omega) (by omega) (by omega) (by omega)) (fun r1 σ2 hp25 => ?_)
          subst hp25
          exact zk_some ⟨hσ, hi.rf⟩
        · have g26 := zne h22
          have e27 := zt_2
          refine zk_ite (fun h28 => ?_) (fun h28 => ?_)
          · have g29 := zeq h28
            have e30 := zt_3
            unfold B_X7_told_56
            refine zk_call (s_X7_of a1 a2 σ hσ (by omega) (by omega) (by omega) (by omega)) (fun r1 σ2 hp31 => ?_)
            subst hp31
            exact zk_some ⟨hσ, hi.rf⟩
          · have g32 := zne h28
            have e33 := zt_3
            refine zk_ite (fun h34 => ?_) (fun h34 => ?_)
            · have g35 := zeq h34
              have e36 := zt_4
              refine zk_call (s_X7_spoils a1 σ hσ (WF.hi hW hi.rf) (by omega) (by omega)) (fun r31 σ32 hp37 => ?_)
              obtain ⟨hS38, hH39⟩ := hp37
              exact zk_some ⟨hS38, (hi.rf.tr hH39)⟩
            · have g40 := zne h34
              have e41 := zt_4
              refine zk_ite (fun h42 => ?_) (fun h42 => ?_)
              · have g43 := zeq h42
                have e44 := zt_5
                refine zk_call (s_X7_isShaded a1 σ hσ (by omega) (by omega)) (fun r41 σ42 hp45 => ?_)
                obtain ⟨rfl, x46⟩ := hp45
                refine zk_ite (fun h47 => ?_) (fun h47 => ?_)
                · have g48 := zeq h47
                  exact zk_some ⟨hσ, hi.rf⟩
                · have g49 := zne h47
                  exact zk_some ⟨hσ, hi.rf⟩
              · have g50 := zne h42
                have e51 := zt_5
                refine zk_ite (fun h52 => ?_) (fun h52 => ?_)
                · have g53 := zeq h52
                  have e54 := zt_6
                  refine zk_call (s_X7_worth a1 σ hσ (by omega) (by omega)) (fun r54 σ55 hp55 => ?_)
                  subst hp55
                  exact zk_some ⟨hσ, hi.rf⟩
                · have g56 := zne h52
                  have e57 := zt_6
                  exact zk_some ⟨hσ, hi.rf⟩

set_option maxHeartbeats 400000 in
theorem s_X7_trim (a1 : Int32) (σ : zg_S) (hσ : IMc σ)  : zk (f_X7_trim a1 σ) (fun r s => IMc s ∧ hi σ s) := by
  unfold f_X7_trim
  have j1 := zI64 a1
  have j2 := zI64 0
  have e3 := zt_0
  have j4 := zI64 (σ 0 14)
  have f5 : 0 ≤ (σ 0 14).toInt ∧ (σ 0 14).toInt ≤ 96 := IMf hσ 0 14
  refine zk_call (s_X7_isIn (Int32.toInt64 a1) (Int32.toInt64 0) (Int32.toInt64 (σ 0 14)) σ hσ ) (fun r1 σ2 hp6 => ?_)
  obtain ⟨rfl, x7⟩ := hp6
  refine zk_ite (fun h11 => ?_) (fun h11 => ?_)
  · have g12 := zeq h11
    exact zk_some ⟨hσ, hi.rf⟩
  · have g13 := zne h11
    obtain ⟨_d8, _d9, _d10⟩ := x7.resolve_left h11
    refine zk_let (fun σ10 q16 => ?_)
    have hS14 : IMc σ10 := by rw [q16]; exact IMc.up hσ (zTs a1) ⟨by omega, by omega⟩
    have g17 : (σ10 0 14).toInt = a1.toInt := by rw [q16]; exact (congrArg Int32.toInt zgot).trans (zTe (zTs a1))
    have hH15 : hi σ σ10 := by rw [q16]; exact hi.up0 hi.rf rfl
    exact zk_some ⟨hS14, hH15⟩

set_option maxHeartbeats 400000 in
theorem s_X7_turns (a1 : Int32) (a2 : Int32) (σ : zg_S) (hσ : IMc σ)  : zk (f_X7_turns a1 a2 σ) (fun r s => IMc s ∧ hi σ s) := by
  unfold f_X7_turns
  refine zk_call (s_X7_isStall a1 σ hσ ) (fun r1 σ2 hp1 => ?_)
  obtain ⟨rfl, x2⟩ := hp1
  have f3 : 0 ≤ (σ 1 0).toInt ∧ (σ 1 0).toInt ≤ 9 := IMf hσ 1 0
  refine zk_ite (fun h7 => ?_) (fun h7 => ?_)
  · have g8 := zeq h7
    have e9 := zt_0
    exact zk_some ⟨hσ, hi.rf⟩
  · have g10 := zne h7
    have e11 := zt_0
    obtain ⟨_d4, _d5, _d6⟩ := x2.resolve_left h7
    have j12 := zI64 a2
    have j13 := zI64 0
    have j14 := zI64 5
    have e15 := zt_5
    refine zk_call (s_X7_isIn (Int32.toInt64 a2) (Int32.toInt64 0) (Int32.toInt64 5) σ hσ ) (fun r11 σ12 hp16 => ?_)
    obtain ⟨rfl, x17⟩ := hp16
    refine zk_ite (fun h21 => ?_) (fun h21 => ?_)
    · have g22 := zeq h21
      exact zk_some ⟨hσ, hi.rf⟩
    · have g23 := zne h21
      obtain ⟨_d18, _d19, _d20⟩ := x17.resolve_left h21
      refine zk_call (s_X7_becomes (11 + (4 * a1)) a2 σ hσ (by rw [zTe (zTadd (zTl zt_11) (zTmul (zTl zt_4) (zTs a1) (by omega) (by omega)) (by omega) (by omega))]; omega) (by rw [zTe (zTadd (zTl zt_11) (zTmul (zTl zt_4) (zTs a1) (by omega) (by omega)) (by omega) (by omega))]; omega)) (fun r21 σ22 hp24 => ?_)
      obtain ⟨hS25, hH26⟩ := hp24
      exact zk_some ⟨hS25, (hi.rf.tr hH26)⟩

set_option maxHeartbeats 400000 in
theorem s_X7_why (a1 : Int32) (σ : zg_S) (hσ : IMc σ)  : zk (f_X7_why a1 σ) (fun r s => σ = s) := by
  unfold f_X7_why
  have j1 := zI64 a1
  have j2 := zI64 0
  have e3 := zt_0
  have j4 := zI64 2
  have e5 := zt_2
  refine zk_call (s_X7_isIn (Int32.toInt64 a1) (Int32.toInt64 0) (Int32.toInt64 2) σ hσ ) (fun r1 σ2 hp6 => ?_)
  obtain ⟨rfl, x7⟩ := hp6
  refine zk_ite (fun h11 => ?_) (fun h11 => ?_)
  · have g12 := zeq h11
    exact zk_some rfl
  · have g13 := zne h11
    obtain ⟨_d8, _d9, _d10⟩ := x7.resolve_left h11
    refine zk_call (s_X7_counts a1 σ hσ ) (fun r11 σ12 hp14 => ?_)
    obtain ⟨rfl, x15, x16⟩ := hp14
    have f17 : 0 ≤ (σ 1 1).toInt ∧ (σ 1 1).toInt ≤ 14 := IMf hσ 1 1
    refine zk_call (s_X7_orNone r11 σ hσ ) (fun r18 σ19 hp18 => ?_)
    subst hp18
    exact zk_some rfl

