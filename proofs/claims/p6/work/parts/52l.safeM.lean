set_option maxHeartbeats 400000 in
theorem s_X7_set (a1 : Int32) (a2 : Int32) (a3 : Int32) (σ : zg_S) (hσ : IMc σ)  : zk (f_X7_set a1 a2 a3 σ) (fun r s => IMc s ∧ hi σ s) := by
  unfold f_X7_set
  refine zk_call (s_X7_isStall a1 σ hσ ) (fun r18 σ19 hp1 => ?_)
  obtain ⟨rfl, x2⟩ := hp1
  have f3 : 0 ≤ (σ 1 0).toInt ∧ (σ 1 0).toInt ≤ 9 := IMf hσ 1 0
  refine zk_ite (fun h7 => ?_) (fun h7 => ?_)
  · have g8 := zeq h7
    have e9 := zt_0
    exact zk_some ⟨hσ, hi.rf⟩
  · have g10 := zne h7
    have e11 := zt_0
    obtain ⟨_d4, _d5, _d6⟩ := x2.resolve_left h7
    have j12 := zI64 a2
    have j13 := zI64 1
    have e14 := zt_1
    have j15 := zI64 3
    have e16 := zt_3
    refine zk_call (s_X7_isIn (Int32.toInt64 a2) (Int32.toInt64 1) (Int32.toInt64 3) σ hσ ) (fun r28 σ29 hp17 => ?_)
    obtain ⟨rfl, x18⟩ := hp17
    refine zk_ite (fun h22 => ?_) (fun h22 => ?_)
    · have g23 := zeq h22
      exact zk_some ⟨hσ, hi.rf⟩
    · have g24 := zne h22
      obtain ⟨_d19, _d20, _d21⟩ := x18.resolve_left h22
      refine zk_ite (fun h25 => ?_) (fun h25 => ?_)
      · have g26 := zeq h25
        unfold B_X7_set_48
        have j27 := zI64 a3
        have j28 := zI64 0
        have j29 := zI64 11
        have e30 := zt_11
        refine zk_call (s_X7_isIn (Int32.toInt64 a3) (Int32.toInt64 0) (Int32.toInt64 11) σ hσ ) (fun r1 σ2 hp31 => ?_)
        obtain ⟨rfl, x32⟩ := hp31
        refine zk_ite (fun h36 => ?_) (fun h36 => ?_)
        · have g37 := zeq h36
          exact zk_some ⟨hσ, hi.rf⟩
        · have g38 := zne h36
          obtain ⟨_d33, _d34, _d35⟩ := x32.resolve_left h36
          refine zk_call (s_X7_becomes ((11 + (4 * a1)) + a2) a3 σ hσ (by rw [zTe (zTadd (zTadd (zTl zt_11) (zTmul (zTl zt_4) (zTs a1) (by omega) (by omega)) (by omega) (by omega)) (zTs a2) (by omega) (by omega))]; omega) (by rw [zTe (zTadd (zTadd (zTl zt_11) (zTmul (zTl zt_4) (zTs a1) (by omega) (by omega)) (by omega) (by omega)) (zTs a2) (by omega) (by omega))]; omega)) (fun r10 σ11 hp39 => ?_)
          obtain ⟨hS40, hH41⟩ := hp39
          exact zk_some ⟨hS40, (hi.rf.tr hH41)⟩
      · have g42 := zne h25
        refine zk_ite (fun h43 => ?_) (fun h43 => ?_)
        · have g44 := zeq h43
          have e45 := zt_2
          unfold B_X7_set_48
          have j46 := zI64 a3
          have j47 := zI64 0
          have j48 := zI64 999
          have e49 := zt_999
          refine zk_call (s_X7_isIn (Int32.toInt64 a3) (Int32.toInt64 0) (Int32.toInt64 999) σ hσ ) (fun r1 σ2 hp50 => ?_)
          obtain ⟨rfl, x51⟩ := hp50
          refine zk_ite (fun h55 => ?_) (fun h55 => ?_)
          · have g56 := zeq h55
            exact zk_some ⟨hσ, hi.rf⟩
          · have g57 := zne h55
            obtain ⟨_d52, _d53, _d54⟩ := x51.resolve_left h55
            refine zk_call (s_X7_becomes ((11 + (4 * a1)) + a2) a3 σ hσ (by rw [zTe (zTadd (zTadd (zTl zt_11) (zTmul (zTl zt_4) (zTs a1) (by omega) (by omega)) (by omega) (by omega)) (zTs a2) (by omega) (by omega))]; omega) (by rw [zTe (zTadd (zTadd (zTl zt_11) (zTmul (zTl zt_4) (zTs a1) (by omega) (by omega)) (by omega) (by omega)) (zTs a2) (by omega) (by omega))]; omega)) (fun r10 σ11 hp58 => ?_)
            obtain ⟨hS59, hH60⟩ := hp58
            exact zk_some ⟨hS59, (hi.rf.tr hH60)⟩
        · have g61 := zne h43
          have e62 := zt_2
          unfold B_X7_set_48
          have j63 := zI64 a3
          have j64 := zI64 0
          have j65 := zI64 99
          have e66 := zt_99
          refine zk_call (s_X7_isIn (Int32.toInt64 a3) (Int32.toInt64 0) (Int32.toInt64 99) σ hσ ) (fun r1 σ2 hp67 => ?_)
          obtain ⟨rfl, x68⟩ := hp67
          refine zk_ite (fun h72 => ?_) (fun h72 => ?_)
          · have g73 := zeq h72
            exact zk_some ⟨hσ, hi.rf⟩
          · have g74 := zne h72
            obtain ⟨_d69, _d70, _d71⟩ := x68.resolve_left h72
            refine zk_call (s_X7_becomes ((11 + (4 * a1)) + a2) a3 σ hσ (by rw [zTe (zTadd (zTadd (zTl zt_11) (zTmul (zTl zt_4) (zTs a1) (by omega) (by omega)) (by omega) (by omega)) (zTs a2) (by omega) (by omega))]; omega) (by rw [zTe (zTadd (zTadd (zTl zt_11) (zTmul (zTl zt_4) (zTs a1) (by omega) (by omega)) (by omega) (by omega)) (zTs a2) (by omega) (by omega))]; omega)) (fun r10 σ11 hp75 => ?_)
            obtain ⟨hS76, hH77⟩ := hp75
            exact zk_some ⟨hS76, (hi.rf.tr hH77)⟩

