theorem w_X7_ask (a1 : Int32) (a2 : Int32) (σ0 : zg_S) : zw (W_X7_ask) σ0 (f_X7_ask a1 a2 σ0) := by
  unfold f_X7_ask
  refine zw_call (w_X7_isSlot a1 σ0) (fun p k h => False.elim h) wr.rf (fun r1 σ2 hσ2 => ?_)
  refine zw_ite ?_ ?_
  · exact zw_some hσ2
  · refine zw_call (w_X7_isIn (Int32.toInt64 a2) (Int32.toInt64 0) (Int32.toInt64 5) σ2) (fun p k h => False.elim h) hσ2 (fun r11 σ12 hσ12 => ?_)
    refine zw_ite ?_ ?_
    · exact zw_some hσ12
    · refine zw_in (fun z1 => ?_)
      refine zw_ite ?_ ?_
      · exact zw_some hσ12
      · refine zw_ite ?_ ?_
        · refine zw_call (w_X7_isOf (σ12 8 (Int32.toNatClampNeg a1)) a2 σ12) (fun p k h => False.elim h) hσ12 (fun r28 σ29 hσ29 => ?_)
          refine zw_ite ?_ ?_
          · exact zw_some hσ29
          · exact zw_some hσ29
        · exact zw_some hσ12
theorem wB_X7_setAside_2 (σ0 : zg_S) (q1 : Nat) (q2 : Nat) (rec2_ : Int32 → zg_S → Option (Int32 × zg_S)) (x3 : Int32) (s : zg_S) (hrec2_ : ∀ (z0 : Int32) (s : zg_S), wr (W_X7_setAside q2) σ0 s → zw (W_X7_setAside q2) σ0 (rec2_ z0 s)) (hs : wr (W_X7_setAside q2) σ0 s) : zw (W_X7_setAside q2) σ0 (B_X7_setAside_2 q1 q2 rec2_ x3 s) := by
  unfold B_X7_setAside_2
  refine zw_ite ?_ ?_
  · exact zw_some hs
  · refine zw_in (fun z1 => ?_)
    refine zw_let (fun y7 => ?_)
    refine zw_in (fun z2 => ?_)
    refine zw_up (by unfold W_X7_setAside; omega) hs (fun σ13 hσ13 => ?_)
    exact hrec2_ (x3 + 1) σ13 hσ13
theorem wL_X7_setAside_2 (σ0 : zg_S) (q1 : Nat) (q2 : Nat) (n : Nat) (x3 : Int32) (s : zg_S) (hs : wr (W_X7_setAside q2) σ0 s) : zw (W_X7_setAside q2) σ0 (L_X7_setAside_2 q1 q2 n x3 s) := by
  unfold L_X7_setAside_2
  exact zwf_I (fun r hr x3 t ht => wB_X7_setAside_2 σ0 q1 q2 r x3 t hr ht) n x3 s hs
theorem w_X7_setAside (q1 : Nat) (q2 : Nat) (σ0 : zg_S) : zw (W_X7_setAside q2) σ0 (f_X7_setAside q1 q2 σ0) := by
  unfold f_X7_setAside
  exact wL_X7_setAside_2 σ0 q1 q2 zfu 0 σ0  wr.rf
theorem w_X7_back  (σ0 : zg_S) : zw (W_X7_back) σ0 (f_X7_back  σ0) := by
  unfold f_X7_back
  refine zw_ite ?_ ?_
  · exact zw_some wr.rf
  · refine zw_call (w_X7_setAside 2 1 σ0) (fun p k h => by unfold W_X7_setAside at h; unfold W_X7_back; omega) wr.rf (fun r3 σ4 hσ4 => ?_)
    exact zw_some hσ4
theorem w_X7_becomes (a1 : Int32) (a2 : Int32) (σ0 : zg_S) : zw (W_X7_becomes a1) σ0 (f_X7_becomes a1 a2 σ0) := by
  unfold f_X7_becomes
  refine zw_in (fun z1 => ?_)
  refine zw_up (by unfold W_X7_becomes; omega) wr.rf (fun σ6 hσ6 => ?_)
  exact zw_some hσ6
theorem wB_X7_laysBy_2 (σ0 : zg_S) (rec2_ : Int32 → zg_S → Option (Int32 × zg_S)) (x1 : Int32) (s : zg_S) (hrec2_ : ∀ (z0 : Int32) (s : zg_S), wr (W_X7_laysBy) σ0 s → zw (W_X7_laysBy) σ0 (rec2_ z0 s)) (hs : wr (W_X7_laysBy) σ0 s) : zw (W_X7_laysBy) σ0 (B_X7_laysBy_2 rec2_ x1 s) := by
  unfold B_X7_laysBy_2
  refine zw_ite ?_ ?_
  · exact zw_some hs
  · refine zw_in (fun z1 => ?_)
    refine zw_in (fun z2 => ?_)
    refine zw_up (by unfold W_X7_laysBy; omega) hs (fun σ10 hσ10 => ?_)
    exact hrec2_ (x1 + 1) σ10 hσ10
theorem wL_X7_laysBy_2 (σ0 : zg_S)  (n : Nat) (x1 : Int32) (s : zg_S) (hs : wr (W_X7_laysBy) σ0 s) : zw (W_X7_laysBy) σ0 (L_X7_laysBy_2  n x1 s) := by
  unfold L_X7_laysBy_2
  exact zwf_I (fun r hr x1 t ht => wB_X7_laysBy_2 σ0  r x1 t hr ht) n x1 s hs
theorem w_X7_laysBy  (σ0 : zg_S) : zw (W_X7_laysBy) σ0 (f_X7_laysBy  σ0) := by
  unfold f_X7_laysBy
  exact wL_X7_laysBy_2 σ0 zfu 0 σ0  wr.rf
theorem w_X7_within (a0 : Int32) (a1 : Int32) (σ0 : zg_S) : zw (W_X7_within) σ0 (f_X7_within a0 a1 σ0) := by
  unfold f_X7_within
  refine zw_ite ?_ ?_
  · refine zw_ite ?_ ?_
    · exact zw_some wr.rf
    · exact zw_some wr.rf
  · exact zw_some wr.rf
theorem w_X7_holds  (σ0 : zg_S) : zw (W_X7_holds) σ0 (f_X7_holds  σ0) := by
  unfold f_X7_holds
  refine zw_call (w_X7_within (σ0 1 7) (12 - (σ0 1 8)) σ0) (fun p k h => False.elim h) wr.rf (fun r1 σ2 hσ2 => ?_)
  refine zw_up (by unfold W_X7_holds; omega) hσ2 (fun σ8 hσ8 => ?_)
  exact zw_some hσ8
theorem w_X7_shadeFrom  (σ0 : zg_S) : zw (W_X7_shadeFrom) σ0 (f_X7_shadeFrom  σ0) := by
  unfold f_X7_shadeFrom
  exact zw_some wr.rf
theorem w_X7_isShaded (a1 : Int32) (σ0 : zg_S) : zw (W_X7_isShaded) σ0 (f_X7_isShaded a1 σ0) := by
  unfold f_X7_isShaded
  refine zw_call (w_X7_of a1 1 σ0) (fun p k h => False.elim h) wr.rf (fun r1 σ2 hσ2 => ?_)
  refine zw_call (w_X7_shadeFrom σ2) (fun p k h => False.elim h) hσ2 (fun r8 σ9 hσ9 => ?_)
  refine zw_call (w_X7_shadeFrom σ9) (fun p k h => False.elim h) hσ9 (fun r15 σ16 hσ16 => ?_)
  refine zw_call (w_X7_isIn (Int32.toInt64 r1) (Int32.toInt64 r8) (Int32.toInt64 ((r15 + (σ16 1 8)) - 1)) σ16) (fun p k h => False.elim h) hσ16 (fun r22 σ23 hσ23 => ?_)
  refine zw_ite ?_ zw_none
  exact zw_some hσ23
theorem wB_X7_payNow_33 (σ0 : zg_S) (rec4_ : Int32 → Int32 → zg_S → Option (Int32 × zg_S)) (x2 : Int32) (y0 : Int32) (y1 : Int32) (s : zg_S) (hrec4_ : ∀ (z0 : Int32) (z1 : Int32) (s : zg_S), wr (W_X7_payNow) σ0 s → zw (W_X7_payNow) σ0 (rec4_ z0 z1 s)) (hs : wr (W_X7_payNow) σ0 s) : zw (W_X7_payNow) σ0 (B_X7_payNow_33 rec4_ x2 y0 y1 s) := by
  unfold B_X7_payNow_33
  exact hrec4_ (y1 + y0) (x2 + 1) s hs
theorem wB_X7_payNow_4 (σ0 : zg_S) (rec4_ : Int32 → Int32 → zg_S → Option (Int32 × zg_S)) (x1 : Int32) (x2 : Int32) (s : zg_S) (hrec4_ : ∀ (z0 : Int32) (z1 : Int32) (s : zg_S), wr (W_X7_payNow) σ0 s → zw (W_X7_payNow) σ0 (rec4_ z0 z1 s)) (hs : wr (W_X7_payNow) σ0 s) : zw (W_X7_payNow) σ0 (B_X7_payNow_4 rec4_ x1 x2 s) := by
  unfold B_X7_payNow_4
  refine zw_ite ?_ ?_
  · exact zw_some hs
  · refine zw_call (w_X7_isShaded x2 s) (fun p k h => False.elim h) hs (fun r8 σ9 hσ9 => ?_)
    refine zw_ite ?_ ?_
    · exact wB_X7_payNow_33 σ0 rec4_ x2 0 x1 σ9 hrec4_ hσ9
    · refine zw_call (w_X7_of x2 3 σ9) (fun p k h => False.elim h) hσ9 (fun r18 σ19 hσ19 => ?_)
      exact wB_X7_payNow_33 σ0 rec4_ x2 r18 x1 σ19 hrec4_ hσ19
theorem wL_X7_payNow_4 (σ0 : zg_S)  (n : Nat) (x1 : Int32) (x2 : Int32) (s : zg_S) (hs : wr (W_X7_payNow) σ0 s) : zw (W_X7_payNow) σ0 (L_X7_payNow_4  n x1 x2 s) := by
  unfold L_X7_payNow_4
  exact zwf_II (fun r hr x1 x2 t ht => wB_X7_payNow_4 σ0  r x1 x2 t hr ht) n x1 x2 s hs
theorem w_X7_payNow  (σ0 : zg_S) : zw (W_X7_payNow) σ0 (f_X7_payNow  σ0) := by
  unfold f_X7_payNow
  exact wL_X7_payNow_4 σ0 zfu 0 0 σ0  wr.rf
theorem w_X7_payIf (a1 : Int32) (σ0 : zg_S) : zw (W_X7_payIf) σ0 (f_X7_payIf a1 σ0) := by
  unfold f_X7_payIf
  refine zw_up (by unfold W_X7_payIf; omega) wr.rf (fun σ3 hσ3 => ?_)
  refine zw_call (w_X7_holds σ3) (fun p k h => by unfold W_X7_holds at h; unfold W_X7_payIf; omega) hσ3 (fun r9 σ10 hσ10 => ?_)
  refine zw_call (w_X7_payNow σ10) (fun p k h => False.elim h) hσ10 (fun r16 σ17 hσ17 => ?_)
  refine zw_up (by unfold W_X7_payIf; omega) hσ17 (fun σ25 hσ25 => ?_)
  exact zw_some hσ25
theorem w_X7_textAt (a1 : Int32) (σ0 : zg_S) : zw (W_X7_textAt) σ0 (f_X7_textAt a1 σ0) := by
  unfold f_X7_textAt
  exact zw_some wr.rf
theorem wB_X7_counts_33 (σ0 : zg_S) (a1 : Int32) (rec4_ : Int32 → Int32 → zg_S → Option (Int32 × zg_S)) (x3 : Int32) (y0 : Int32) (s : zg_S) (hrec4_ : ∀ (z0 : Int32) (z1 : Int32) (s : zg_S), wr (W_X7_counts) σ0 s → zw (W_X7_counts) σ0 (rec4_ z0 z1 s)) (hs : wr (W_X7_counts) σ0 s) : zw (W_X7_counts) σ0 (B_X7_counts_33 a1 rec4_ x3 y0 s) := by
  unfold B_X7_counts_33
  exact hrec4_ y0 (x3 + 1) s hs
theorem wB_X7_counts_4 (σ0 : zg_S) (a1 : Int32) (rec4_ : Int32 → Int32 → zg_S → Option (Int32 × zg_S)) (x2 : Int32) (x3 : Int32) (s : zg_S) (hrec4_ : ∀ (z0 : Int32) (z1 : Int32) (s : zg_S), wr (W_X7_counts) σ0 s → zw (W_X7_counts) σ0 (rec4_ z0 z1 s)) (hs : wr (W_X7_counts) σ0 s) : zw (W_X7_counts) σ0 (B_X7_counts_4 a1 rec4_ x2 x3 s) := by
  unfold B_X7_counts_4
  refine zw_ite ?_ ?_
  · exact zw_some hs
  · refine zw_call (w_X7_textAt x3 s) (fun p k h => False.elim h) hs (fun r8 σ9 hσ9 => ?_)
    refine zw_in (fun z1 => ?_)
    refine zw_ite ?_ ?_
    · exact wB_X7_counts_33 σ0 a1 rec4_ x3 x3 σ9 hrec4_ hσ9
    · exact wB_X7_counts_33 σ0 a1 rec4_ x3 x2 σ9 hrec4_ hσ9
theorem wL_X7_counts_4 (σ0 : zg_S) (a1 : Int32) (n : Nat) (x2 : Int32) (x3 : Int32) (s : zg_S) (hs : wr (W_X7_counts) σ0 s) : zw (W_X7_counts) σ0 (L_X7_counts_4 a1 n x2 x3 s) := by
  unfold L_X7_counts_4
  exact zwf_II (fun r hr x2 x3 t ht => wB_X7_counts_4 σ0 a1 r x2 x3 t hr ht) n x2 x3 s hs
theorem w_X7_counts (a1 : Int32) (σ0 : zg_S) : zw (W_X7_counts) σ0 (f_X7_counts a1 σ0) := by
  unfold f_X7_counts
  exact wL_X7_counts_4 σ0 a1 zfu (-1) 0 σ0  wr.rf
theorem w_X7_off (a0 : Int32) (a1 : Int32) (σ0 : zg_S) : zw (W_X7_off) σ0 (f_X7_off a0 a1 σ0) := by
  unfold f_X7_off
  refine zw_ite ?_ ?_
  · exact zw_some wr.rf
  · exact zw_some wr.rf
theorem w_X7_heat  (σ0 : zg_S) : zw (W_X7_heat) σ0 (f_X7_heat  σ0) := by
  unfold f_X7_heat
  refine zw_call (w_X7_off ((σ0 1 2) - (σ0 1 2) / 10 * 10) 5 σ0) (fun p k h => False.elim h) wr.rf (fun r1 σ2 hσ2 => ?_)
  exact zw_some hσ2
theorem wB_X7_joined_197 (σ0 : zg_S) (a0 : Int32) (a1 : Int32) (a2 : Int32) (s : zg_S) (hs : wr (W_X7_joined) σ0 s) : zw (W_X7_joined) σ0 (B_X7_joined_197 a0 a1 a2 s) := by
  unfold B_X7_joined_197
  refine zw_ite ?_ ?_
  · refine zw_ite ?_ ?_
    · exact zw_some hs
    · exact zw_some hs
  · exact zw_some hs
theorem w_X7_joined (a0 : Int32) (a1 : Int32) (a2 : Int32) (σ0 : zg_S) : zw (W_X7_joined) σ0 (f_X7_joined a0 a1 a2 σ0) := by
  unfold f_X7_joined
  refine zw_ite ?_ ?_
  · refine zw_ite ?_ ?_
    · exact zw_some wr.rf
    · refine zw_ite ?_ ?_
      · exact zw_some wr.rf
      · exact zw_some wr.rf
  · refine zw_ite ?_ ?_
    · exact wB_X7_joined_197 σ0 a0 a1 a2 σ0  wr.rf
    · refine zw_ite ?_ ?_
      · exact wB_X7_joined_197 σ0 a0 a1 a2 σ0  wr.rf
      · refine zw_ite ?_ ?_
        · exact wB_X7_joined_197 σ0 a0 a1 a2 σ0  wr.rf
        · refine zw_ite ?_ ?_
          · exact zw_some wr.rf
          · refine zw_ite ?_ ?_
            · exact zw_some wr.rf
            · refine zw_ite ?_ ?_
              · exact wB_X7_joined_197 σ0 a0 a1 a2 σ0  wr.rf
              · refine zw_ite ?_ ?_
                · exact zw_some wr.rf
                · refine zw_ite ?_ ?_
                  · exact wB_X7_joined_197 σ0 a0 a1 a2 σ0  wr.rf
                  · refine zw_ite ?_ ?_
                    · refine zw_ite ?_ ?_
                      · exact zw_some wr.rf
                      · refine zw_ite ?_ ?_
                        · exact zw_some wr.rf
                        · refine zw_ite zw_none ?_
                          exact zw_some wr.rf
                    · refine zw_ite ?_ ?_
                      · exact wB_X7_joined_197 σ0 a0 a1 a2 σ0  wr.rf
                      · refine zw_ite ?_ ?_
                        · exact wB_X7_joined_197 σ0 a0 a1 a2 σ0  wr.rf
                        · refine zw_ite ?_ ?_
                          · exact wB_X7_joined_197 σ0 a0 a1 a2 σ0  wr.rf
                          · refine zw_ite ?_ ?_
                            · exact wB_X7_joined_197 σ0 a0 a1 a2 σ0  wr.rf
                            · refine zw_ite ?_ ?_
                              · exact wB_X7_joined_197 σ0 a0 a1 a2 σ0  wr.rf
                              · refine zw_ite ?_ ?_
                                · exact wB_X7_joined_197 σ0 a0 a1 a2 σ0  wr.rf
                                · refine zw_ite ?_ ?_
                                  · exact wB_X7_joined_197 σ0 a0 a1 a2 σ0  wr.rf
                                  · refine zw_ite ?_ ?_
                                    · exact wB_X7_joined_197 σ0 a0 a1 a2 σ0  wr.rf
                                    · refine zw_ite ?_ ?_
                                      · exact wB_X7_joined_197 σ0 a0 a1 a2 σ0  wr.rf
                                      · refine zw_ite ?_ ?_
                                        · exact wB_X7_joined_197 σ0 a0 a1 a2 σ0  wr.rf
                                        · refine zw_ite ?_ ?_
                                          · exact wB_X7_joined_197 σ0 a0 a1 a2 σ0  wr.rf
                                          · refine zw_ite ?_ ?_
                                            · exact wB_X7_joined_197 σ0 a0 a1 a2 σ0  wr.rf
                                            · refine zw_ite ?_ ?_
                                              · refine zw_ite ?_ ?_
                                                · exact zw_some wr.rf
                                                · exact zw_some wr.rf
                                              · refine zw_ite ?_ ?_
                                                · refine zw_ite ?_ ?_
                                                  · exact zw_some wr.rf
                                                  · exact zw_some wr.rf
                                                · refine zw_ite ?_ ?_
                                                  · refine zw_ite ?_ ?_
                                                    · exact zw_some wr.rf
                                                    · exact zw_some wr.rf
                                                  · exact wB_X7_joined_197 σ0 a0 a1 a2 σ0  wr.rf
theorem wB_X7_worked_157 (σ0 : zg_S) (a1 : Int32) (rec4_ : Int32 → Int32 → zg_S → Option (Int32 × zg_S)) (x2 : Int32) (x3 : Int32) (s : zg_S) (hrec4_ : ∀ (z0 : Int32) (z1 : Int32) (s : zg_S), wr (W_X7_worked) σ0 s → zw (W_X7_worked) σ0 (rec4_ z0 z1 s)) (hs : wr (W_X7_worked) σ0 s) : zw (W_X7_worked) σ0 (B_X7_worked_157 a1 rec4_ x2 x3 s) := by
  unfold B_X7_worked_157
  exact hrec4_ x2 (x3 + 1) s hs
theorem wB_X7_worked_123 (σ0 : zg_S) (a1 : Int32) (rec4_ : Int32 → Int32 → zg_S → Option (Int32 × zg_S)) (x2 : Int32) (x3 : Int32) (y0 : Int32) (y1 : Int32) (s : zg_S) (hrec4_ : ∀ (z0 : Int32) (z1 : Int32) (s : zg_S), wr (W_X7_worked) σ0 s → zw (W_X7_worked) σ0 (rec4_ z0 z1 s)) (hs : wr (W_X7_worked) σ0 s) : zw (W_X7_worked) σ0 (B_X7_worked_123 a1 rec4_ x2 x3 y0 y1 s) := by
  unfold B_X7_worked_123
  refine zw_in (fun z1 => ?_)
  refine zw_up (by unfold W_X7_worked; omega) hs (fun σ6 hσ6 => ?_)
  exact wB_X7_worked_157 σ0 a1 rec4_ x2 x3 σ6 hrec4_ hσ6
theorem wB_X7_worked_86 (σ0 : zg_S) (a1 : Int32) (rec4_ : Int32 → Int32 → zg_S → Option (Int32 × zg_S)) (x2 : Int32) (x3 : Int32) (y0 : Int32) (y1 : Int32) (s : zg_S) (hrec4_ : ∀ (z0 : Int32) (z1 : Int32) (s : zg_S), wr (W_X7_worked) σ0 s → zw (W_X7_worked) σ0 (rec4_ z0 z1 s)) (hs : wr (W_X7_worked) σ0 s) : zw (W_X7_worked) σ0 (B_X7_worked_86 a1 rec4_ x2 x3 y0 y1 s) := by
  unfold B_X7_worked_86
  refine zw_in (fun z1 => ?_)
  refine zw_up (by unfold W_X7_worked; omega) hs (fun σ15 hσ15 => ?_)
  exact wB_X7_worked_157 σ0 a1 rec4_ (x2 + 1) x3 σ15 hrec4_ hσ15
theorem wB_X7_worked_4 (σ0 : zg_S) (a1 : Int32) (rec4_ : Int32 → Int32 → zg_S → Option (Int32 × zg_S)) (x2 : Int32) (x3 : Int32) (s : zg_S) (hrec4_ : ∀ (z0 : Int32) (z1 : Int32) (s : zg_S), wr (W_X7_worked) σ0 s → zw (W_X7_worked) σ0 (rec4_ z0 z1 s)) (hs : wr (W_X7_worked) σ0 s) : zw (W_X7_worked) σ0 (B_X7_worked_4 a1 rec4_ x2 x3 s) := by
  unfold B_X7_worked_4
  refine zw_call (w_X7_textAt a1 s) (fun p k h => False.elim h) hs (fun r23 σ24 hσ24 => ?_)
  refine zw_in (fun z1 => ?_)
  refine zw_ite ?_ ?_
  · exact zw_some hσ24
  · refine zw_call (w_X7_textAt a1 σ24) (fun p k h => False.elim h) hσ24 (fun r36 σ37 hσ37 => ?_)
    refine zw_in (fun z2 => ?_)
    refine zw_let (fun y46 => ?_)
    refine zw_call (w_X7_textAt a1 σ37) (fun p k h => False.elim h) hσ37 (fun r51 σ52 hσ52 => ?_)
    refine zw_in (fun z3 => ?_)
    refine zw_let (fun y61 => ?_)
    refine zw_ite ?_ ?_
    · refine zw_ite ?_ ?_
      · refine zw_in (fun z4 => ?_)
        refine zw_ite ?_ ?_
        · exact wB_X7_worked_123 σ0 a1 rec4_ x2 x3 1 (x2 - 1) σ52 hrec4_ hσ52
        · exact wB_X7_worked_123 σ0 a1 rec4_ x2 x3 0 (x2 - 1) σ52 hrec4_ hσ52
      · refine zw_in (fun z5 => ?_)
        refine zw_in (fun z6 => ?_)
        refine zw_call (w_X7_joined y61 (σ52 15 (Int32.toNatClampNeg ((x2 + (-1)) - 1))) (σ52 15 (Int32.toNatClampNeg (x2 + (-1)))) σ52) (fun p k h => False.elim h) hσ52 (fun r78 σ79 hσ79 => ?_)
        refine zw_up (by unfold W_X7_worked; omega) hσ79 (fun σ85 hσ85 => ?_)
        exact wB_X7_worked_157 σ0 a1 rec4_ (x2 + (-1)) x3 σ85 hrec4_ hσ85
    · refine zw_ite ?_ ?_
      · exact wB_X7_worked_86 σ0 a1 rec4_ x2 x3 y61 x2 σ52 hrec4_ hσ52
      · refine zw_in (fun z7 => ?_)
        exact wB_X7_worked_86 σ0 a1 rec4_ x2 x3 (σ52 14 (Int32.toNatClampNeg y61)) x2 σ52 hrec4_ hσ52
theorem wL_X7_worked_4 (σ0 : zg_S) (a1 : Int32) (n : Nat) (x2 : Int32) (x3 : Int32) (s : zg_S) (hs : wr (W_X7_worked) σ0 s) : zw (W_X7_worked) σ0 (L_X7_worked_4 a1 n x2 x3 s) := by
  unfold L_X7_worked_4
  exact zwf_II (fun r hr x2 x3 t ht => wB_X7_worked_4 σ0 a1 r x2 x3 t hr ht) n x2 x3 s hs
theorem w_X7_worked (a1 : Int32) (σ0 : zg_S) : zw (W_X7_worked) σ0 (f_X7_worked a1 σ0) := by
  unfold f_X7_worked
  exact wL_X7_worked_4 σ0 a1 zfu 0 0 σ0  wr.rf
theorem w_X7_melts (a1 : Int32) (σ0 : zg_S) : zw (W_X7_melts) σ0 (f_X7_melts a1 σ0) := by
  unfold f_X7_melts
  refine zw_call (w_X7_counts 0 σ0) (fun p k h => False.elim h) wr.rf (fun r1 σ2 hσ2 => ?_)
  refine zw_ite ?_ ?_
  · refine zw_call (w_X7_heat σ2) (fun p k h => False.elim h) hσ2 (fun r12 σ13 hσ13 => ?_)
    refine zw_up (by unfold W_X7_melts; omega) hσ13 (fun σ19 hσ19 => ?_)
    refine zw_call (w_X7_of a1 2 σ19) (fun p k h => False.elim h) hσ19 (fun r25 σ26 hσ26 => ?_)
    refine zw_up (by unfold W_X7_melts; omega) hσ26 (fun σ32 hσ32 => ?_)
    refine zw_call (w_X7_of a1 3 σ32) (fun p k h => False.elim h) hσ32 (fun r38 σ39 hσ39 => ?_)
    refine zw_up (by unfold W_X7_melts; omega) hσ39 (fun σ45 hσ45 => ?_)
    refine zw_call (w_X7_worked r1 σ45) (fun p k h => by unfold W_X7_worked at h; unfold W_X7_melts; omega) hσ45 (fun r51 σ52 hσ52 => ?_)
    refine zw_call (w_X7_of a1 2 σ52) (fun p k h => False.elim h) hσ52 (fun r58 σ59 hσ59 => ?_)
    refine zw_call (w_X7_within r51 r58 σ59) (fun p k h => False.elim h) hσ59 (fun r65 σ66 hσ66 => ?_)
    exact zw_some hσ66
  · refine zw_call (w_X7_heat σ2) (fun p k h => False.elim h) hσ2 (fun r73 σ74 hσ74 => ?_)
    exact zw_some hσ74
theorem wB_X7_spoils_109 (σ0 : zg_S) (a1 : Int32) (x2 : Int32) (s : zg_S) (hs : wr (W_X7_spoils) σ0 s) : zw (W_X7_spoils) σ0 (B_X7_spoils_109 a1 x2 s) := by
  unfold B_X7_spoils_109
  refine zw_call (w_X7_of a1 2 s) (fun p k h => False.elim h) hs (fun r1 σ2 hσ2 => ?_)
  refine zw_ite ?_ ?_
  · exact zw_some hσ2
  · refine zw_call (w_X7_of a1 2 σ2) (fun p k h => False.elim h) hσ2 (fun r11 σ12 hσ12 => ?_)
    exact zw_some hσ12
theorem wB_X7_spoils_25 (σ0 : zg_S) (a1 : Int32) (y0 : Int32) (s : zg_S) (hs : wr (W_X7_spoils) σ0 s) : zw (W_X7_spoils) σ0 (B_X7_spoils_25 a1 y0 s) := by
  unfold B_X7_spoils_25
  exact wB_X7_spoils_109 σ0 a1 y0 s  hs
theorem w_X7_spoils (a1 : Int32) (σ0 : zg_S) : zw (W_X7_spoils) σ0 (f_X7_spoils a1 σ0) := by
  unfold f_X7_spoils
  refine zw_call (w_X7_isShaded a1 σ0) (fun p k h => False.elim h) wr.rf (fun r22 σ23 hσ23 => ?_)
  refine zw_ite ?_ ?_
  · refine zw_call (w_X7_of a1 0 σ23) (fun p k h => False.elim h) hσ23 (fun r31 σ32 hσ32 => ?_)
    refine zw_ite ?_ ?_
    · refine zw_call (w_X7_melts a1 σ32) (fun p k h => by unfold W_X7_melts at h; unfold W_X7_spoils; omega) hσ32 (fun r98 σ99 hσ99 => ?_)
      exact wB_X7_spoils_109 σ0 a1 r98 σ99  hσ99
    · refine zw_call (w_X7_of a1 0 σ32) (fun p k h => False.elim h) hσ32 (fun r40 σ41 hσ41 => ?_)
      refine zw_ite ?_ ?_
      · refine zw_call (w_X7_melts a1 σ41) (fun p k h => by unfold W_X7_melts at h; unfold W_X7_spoils; omega) hσ41 (fun r88 σ89 hσ89 => ?_)
        exact wB_X7_spoils_109 σ0 a1 (2 * r88) σ89  hσ89
      · refine zw_call (w_X7_of a1 0 σ41) (fun p k h => False.elim h) hσ41 (fun r49 σ50 hσ50 => ?_)
        refine zw_ite ?_ ?_
        · refine zw_call (w_X7_melts a1 σ50) (fun p k h => by unfold W_X7_melts at h; unfold W_X7_spoils; omega) hσ50 (fun r78 σ79 hσ79 => ?_)
          exact wB_X7_spoils_109 σ0 a1 ((2 * r78) + 5) σ79  hσ79
        · refine zw_call (w_X7_of a1 0 σ50) (fun p k h => False.elim h) hσ50 (fun r58 σ59 hσ59 => ?_)
          refine zw_ite ?_ ?_
          · refine zw_call (w_X7_melts a1 σ59) (fun p k h => by unfold W_X7_melts at h; unfold W_X7_spoils; omega) hσ59 (fun r68 σ69 hσ69 => ?_)
            exact wB_X7_spoils_109 σ0 a1 (r68 / 2) σ69  hσ69
          · exact wB_X7_spoils_109 σ0 a1 0 σ59  hσ59
  · refine zw_call (w_X7_of a1 0 σ23) (fun p k h => False.elim h) hσ23 (fun r108 σ109 hσ109 => ?_)
    refine zw_ite ?_ ?_
    · exact wB_X7_spoils_25 σ0 a1 2 σ109  hσ109
    · exact wB_X7_spoils_25 σ0 a1 0 σ109  hσ109
theorem wB_X7_hauls_125 (σ0 : zg_S) (rec67_ : Int32 → Int32 → zg_S → Option (Int32 × zg_S)) (x2 : Int32) (y0 : Int32) (s : zg_S) (hrec67_ : ∀ (z0 : Int32) (z1 : Int32) (s : zg_S), wr (W_X7_hauls) σ0 s → zw (W_X7_hauls) σ0 (rec67_ z0 z1 s)) (hs : wr (W_X7_hauls) σ0 s) : zw (W_X7_hauls) σ0 (B_X7_hauls_125 rec67_ x2 y0 s) := by
  unfold B_X7_hauls_125
  exact hrec67_ y0 (x2 + 1) s hs
theorem wB_X7_hauls_124 (σ0 : zg_S) (rec67_ : Int32 → Int32 → zg_S → Option (Int32 × zg_S)) (x1 : Int32) (x2 : Int32) (s : zg_S) (hrec67_ : ∀ (z0 : Int32) (z1 : Int32) (s : zg_S), wr (W_X7_hauls) σ0 s → zw (W_X7_hauls) σ0 (rec67_ z0 z1 s)) (hs : wr (W_X7_hauls) σ0 s) : zw (W_X7_hauls) σ0 (B_X7_hauls_124 rec67_ x1 x2 s) := by
  unfold B_X7_hauls_124
  exact wB_X7_hauls_125 σ0 rec67_ x2 x1 s hrec67_ hs
theorem wB_X7_hauls_120 (σ0 : zg_S) (rec67_ : Int32 → Int32 → zg_S → Option (Int32 × zg_S)) (x2 : Int32) (s : zg_S) (hrec67_ : ∀ (z0 : Int32) (z1 : Int32) (s : zg_S), wr (W_X7_hauls) σ0 s → zw (W_X7_hauls) σ0 (rec67_ z0 z1 s)) (hs : wr (W_X7_hauls) σ0 s) : zw (W_X7_hauls) σ0 (B_X7_hauls_120 rec67_ x2 s) := by
  unfold B_X7_hauls_120
  exact wB_X7_hauls_125 σ0 rec67_ x2 x2 s hrec67_ hs
theorem wB_X7_hauls_98 (σ0 : zg_S) (rec67_ : Int32 → Int32 → zg_S → Option (Int32 × zg_S)) (x1 : Int32) (x2 : Int32) (y0 : Int32) (s : zg_S) (hrec67_ : ∀ (z0 : Int32) (z1 : Int32) (s : zg_S), wr (W_X7_hauls) σ0 s → zw (W_X7_hauls) σ0 (rec67_ z0 z1 s)) (hs : wr (W_X7_hauls) σ0 s) : zw (W_X7_hauls) σ0 (B_X7_hauls_98 rec67_ x1 x2 y0 s) := by
  unfold B_X7_hauls_98
  refine zw_ite ?_ ?_
  · exact wB_X7_hauls_124 σ0 rec67_ x1 x2 s hrec67_ hs
  · refine zw_ite ?_ ?_
    · exact wB_X7_hauls_120 σ0 rec67_ x2 s hrec67_ hs
    · refine zw_call (w_X7_spoils x2 s) (fun p k h => by unfold W_X7_spoils at h; unfold W_X7_hauls; omega) hs (fun r13 σ14 hσ14 => ?_)
      refine zw_call (w_X7_spoils x1 σ14) (fun p k h => by unfold W_X7_spoils at h; unfold W_X7_hauls; omega) hσ14 (fun r20 σ21 hσ21 => ?_)
      refine zw_ite ?_ ?_
      · exact wB_X7_hauls_124 σ0 rec67_ x1 x2 σ21 hrec67_ hσ21
      · exact wB_X7_hauls_120 σ0 rec67_ x2 σ21 hrec67_ hσ21
theorem wB_X7_hauls_97 (σ0 : zg_S) (rec67_ : Int32 → Int32 → zg_S → Option (Int32 × zg_S)) (x1 : Int32) (x2 : Int32) (s : zg_S) (hrec67_ : ∀ (z0 : Int32) (z1 : Int32) (s : zg_S), wr (W_X7_hauls) σ0 s → zw (W_X7_hauls) σ0 (rec67_ z0 z1 s)) (hs : wr (W_X7_hauls) σ0 s) : zw (W_X7_hauls) σ0 (B_X7_hauls_97 rec67_ x1 x2 s) := by
  unfold B_X7_hauls_97
  exact wB_X7_hauls_98 σ0 rec67_ x1 x2 0 s hrec67_ hs
theorem wB_X7_hauls_67 (σ0 : zg_S) (rec67_ : Int32 → Int32 → zg_S → Option (Int32 × zg_S)) (x1 : Int32) (x2 : Int32) (s : zg_S) (hrec67_ : ∀ (z0 : Int32) (z1 : Int32) (s : zg_S), wr (W_X7_hauls) σ0 s → zw (W_X7_hauls) σ0 (rec67_ z0 z1 s)) (hs : wr (W_X7_hauls) σ0 s) : zw (W_X7_hauls) σ0 (B_X7_hauls_67 rec67_ x1 x2 s) := by
  unfold B_X7_hauls_67
  refine zw_ite ?_ ?_
  · refine zw_ite ?_ ?_
    · refine zw_call (w_X7_of x1 1 s) (fun p k h => False.elim h) hs (fun r34 σ35 hσ35 => ?_)
      refine zw_call (w_X7_shadeFrom σ35) (fun p k h => False.elim h) hσ35 (fun r41 σ42 hσ42 => ?_)
      refine zw_ite ?_ ?_
      · exact zw_some hσ42
      · exact zw_some hσ42
    · exact zw_some hs
  · refine zw_call (w_X7_isShaded x2 s) (fun p k h => False.elim h) hs (fun r53 σ54 hσ54 => ?_)
    refine zw_ite ?_ ?_
    · refine zw_call (w_X7_spoils x2 σ54) (fun p k h => by unfold W_X7_spoils at h; unfold W_X7_hauls; omega) hσ54 (fun r63 σ64 hσ64 => ?_)
      refine zw_ite ?_ ?_
      · exact wB_X7_hauls_97 σ0 rec67_ x1 x2 σ64 hrec67_ hσ64
      · exact wB_X7_hauls_98 σ0 rec67_ x1 x2 1 σ64 hrec67_ hσ64
    · exact wB_X7_hauls_97 σ0 rec67_ x1 x2 σ54 hrec67_ hσ54
theorem wL_X7_hauls_67 (σ0 : zg_S)  (n : Nat) (x1 : Int32) (x2 : Int32) (s : zg_S) (hs : wr (W_X7_hauls) σ0 s) : zw (W_X7_hauls) σ0 (L_X7_hauls_67  n x1 x2 s) := by
  unfold L_X7_hauls_67
  exact zwf_II (fun r hr x1 x2 t ht => wB_X7_hauls_67 σ0  r x1 x2 t hr ht) n x1 x2 s hs
theorem wB_X7_hauls_43 (σ0 : zg_S) (y0 : Int32) (s : zg_S) (hs : wr (W_X7_hauls) σ0 s) : zw (W_X7_hauls) σ0 (B_X7_hauls_43 y0 s) := by
  unfold B_X7_hauls_43
  refine zw_call (w_X7_payIf 1 s) (fun p k h => by unfold W_X7_payIf at h; unfold W_X7_hauls; omega) hs (fun r75 σ76 hσ76 => ?_)
  refine zw_call (w_X7_payIf y0 σ76) (fun p k h => by unfold W_X7_payIf at h; unfold W_X7_hauls; omega) hσ76 (fun r82 σ83 hσ83 => ?_)
  refine zw_ite ?_ ?_
  · exact zw_some hσ83
  · exact zw_some hσ83
theorem w_X7_hauls  (σ0 : zg_S) : zw (W_X7_hauls) σ0 (f_X7_hauls  σ0) := by
  unfold f_X7_hauls
  refine zw_ite ?_ ?_
  · exact zw_some wr.rf
  · refine zw_ite ?_ ?_
    · refine zw_call (w_X7_payIf (-1) σ0) (fun p k h => by unfold W_X7_payIf at h; unfold W_X7_hauls; omega) wr.rf (fun r101 σ102 hσ102 => ?_)
      refine zw_call (w_X7_payIf 0 σ102) (fun p k h => by unfold W_X7_payIf at h; unfold W_X7_hauls; omega) hσ102 (fun r110 σ111 hσ111 => ?_)
      refine zw_ite ?_ ?_
      · exact wB_X7_hauls_43 σ0 0 σ111  hσ111
      · exact wB_X7_hauls_43 σ0 (-1) σ111  hσ111
    · exact wL_X7_hauls_67 σ0 zfu (-1) 0 σ0  wr.rf
theorem w_X7_sets (a1 : Int32) (a2 : Int32) (a3 : Int32) (σ0 : zg_S) : zw (W_X7_sets a1 a2) σ0 (f_X7_sets a1 a2 a3 σ0) := by
  unfold f_X7_sets
  refine zw_in (fun z1 => ?_)
  refine zw_up (by unfold W_X7_sets; omega) wr.rf (fun σ4 hσ4 => ?_)
  exact zw_some hσ4
theorem w_X7_drawn  (σ0 : zg_S) : zw (W_X7_drawn) σ0 (f_X7_drawn  σ0) := by
  unfold f_X7_drawn
  refine zw_let (fun y1 => ?_)
  refine zw_up (by unfold W_X7_drawn; omega) wr.rf (fun σ4 hσ4 => ?_)
  exact zw_some hσ4
theorem wB_X7_goesOnBy_149 (σ0 : zg_S) (a1 : Int32) (s : zg_S) (hs : wr (W_X7_goesOnBy) σ0 s) : zw (W_X7_goesOnBy) σ0 (B_X7_goesOnBy_149 a1 s) := by
  unfold B_X7_goesOnBy_149
  refine zw_up (by unfold W_X7_goesOnBy; omega) hs (fun σ1 hσ1 => ?_)
  exact zw_some hσ1
theorem wB_X7_goesOnBy_147 (σ0 : zg_S) (a1 : Int32) (y0 : Int32) (y1 : Int32) (y2 : Int32) (s : zg_S) (hs : wr (W_X7_goesOnBy) σ0 s) : zw (W_X7_goesOnBy) σ0 (B_X7_goesOnBy_147 a1 y0 y1 y2 s) := by
  unfold B_X7_goesOnBy_147
  refine zw_in (fun z1 => ?_)
  refine zw_up (by unfold W_X7_goesOnBy; omega) hs (fun σ10 hσ10 => ?_)
  exact wB_X7_goesOnBy_149 σ0 a1 σ10  hσ10
theorem wB_X7_goesOnBy_82 (σ0 : zg_S) (a1 : Int32) (rec17_ : Int32 → zg_S → Option (Int32 × zg_S)) (x2 : Int32) (y0 : Int32) (y1 : Int32) (y2 : Int32) (s : zg_S) (hrec17_ : ∀ (z0 : Int32) (s : zg_S), wr (W_X7_goesOnBy) σ0 s → zw (W_X7_goesOnBy) σ0 (rec17_ z0 s)) (hs : wr (W_X7_goesOnBy) σ0 s) : zw (W_X7_goesOnBy) σ0 (B_X7_goesOnBy_82 a1 rec17_ x2 y0 y1 y2 s) := by
  unfold B_X7_goesOnBy_82
  refine zw_in (fun z1 => ?_)
  refine zw_up (by unfold W_X7_goesOnBy; omega) hs (fun σ19 hσ19 => ?_)
  exact hrec17_ (x2 + 1) σ19 hσ19
theorem wB_X7_goesOnBy_17 (σ0 : zg_S) (a1 : Int32) (rec17_ : Int32 → zg_S → Option (Int32 × zg_S)) (x2 : Int32) (s : zg_S) (hrec17_ : ∀ (z0 : Int32) (s : zg_S), wr (W_X7_goesOnBy) σ0 s → zw (W_X7_goesOnBy) σ0 (rec17_ z0 s)) (hs : wr (W_X7_goesOnBy) σ0 s) : zw (W_X7_goesOnBy) σ0 (B_X7_goesOnBy_17 a1 rec17_ x2 s) := by
  unfold B_X7_goesOnBy_17
  refine zw_ite ?_ ?_
  · refine zw_call (w_X7_drawn s) (fun p k h => by unfold W_X7_drawn at h; unfold W_X7_goesOnBy; omega) hs (fun r29 σ30 hσ30 => ?_)
    refine zw_ite ?_ ?_
    · exact wB_X7_goesOnBy_149 σ0 a1 σ30  hσ30
    · refine zw_call (w_X7_drawn σ30) (fun p k h => by unfold W_X7_drawn at h; unfold W_X7_goesOnBy; omega) hσ30 (fun r39 σ40 hσ40 => ?_)
      refine zw_let (fun y48 => ?_)
      refine zw_up (by unfold W_X7_goesOnBy; omega) hσ40 (fun σ51 hσ51 => ?_)
      refine zw_call (w_X7_holds σ51) (fun p k h => by unfold W_X7_holds at h; unfold W_X7_goesOnBy; omega) hσ51 (fun r57 σ58 hσ58 => ?_)
      refine zw_ite ?_ ?_
      · exact wB_X7_goesOnBy_147 σ0 a1 0 (σ58 1 5) 5 σ58  hσ58
      · exact wB_X7_goesOnBy_147 σ0 a1 1 (σ58 1 5) 5 σ58  hσ58
  · refine zw_call (w_X7_spoils x2 s) (fun p k h => by unfold W_X7_spoils at h; unfold W_X7_goesOnBy; omega) hs (fun r68 σ69 hσ69 => ?_)
    refine zw_up (by unfold W_X7_goesOnBy; omega) hσ69 (fun σ77 hσ77 => ?_)
    refine zw_call (w_X7_of x2 2 σ77) (fun p k h => False.elim h) hσ77 (fun r83 σ84 hσ84 => ?_)
    refine zw_call (w_X7_sets x2 2 (r83 - r68) σ84) (fun p k h => by unfold W_X7_sets at h; unfold W_X7_goesOnBy; omega) hσ84 (fun r90 σ91 hσ91 => ?_)
    refine zw_call (w_X7_isShaded x2 σ91) (fun p k h => False.elim h) hσ91 (fun r97 σ98 hσ98 => ?_)
    refine zw_ite ?_ ?_
    · exact wB_X7_goesOnBy_82 σ0 a1 rec17_ x2 0 (σ91 1 3) 3 σ98 hrec17_ hσ98
    · refine zw_call (w_X7_of x2 3 σ98) (fun p k h => False.elim h) hσ98 (fun r107 σ108 hσ108 => ?_)
      exact wB_X7_goesOnBy_82 σ0 a1 rec17_ x2 r107 (σ91 1 3) 3 σ108 hrec17_ hσ108
theorem wL_X7_goesOnBy_17 (σ0 : zg_S) (a1 : Int32) (n : Nat) (x2 : Int32) (s : zg_S) (hs : wr (W_X7_goesOnBy) σ0 s) : zw (W_X7_goesOnBy) σ0 (L_X7_goesOnBy_17 a1 n x2 s) := by
  unfold L_X7_goesOnBy_17
  exact zwf_I (fun r hr x2 t ht => wB_X7_goesOnBy_17 σ0 a1 r x2 t hr ht) n x2 s hs
theorem w_X7_goesOnBy (a1 : Int32) (σ0 : zg_S) : zw (W_X7_goesOnBy) σ0 (f_X7_goesOnBy a1 σ0) := by
  unfold f_X7_goesOnBy
  refine zw_up (by unfold W_X7_goesOnBy; omega) wr.rf (fun σ114 hσ114 => ?_)
  refine zw_call (w_X7_holds σ114) (fun p k h => by unfold W_X7_holds at h; unfold W_X7_goesOnBy; omega) hσ114 (fun r120 σ121 hσ121 => ?_)
  exact wL_X7_goesOnBy_17 σ0 a1 zfu 0 σ121  hσ121
theorem w_X7_goesOn  (σ0 : zg_S) : zw (W_X7_goesOn) σ0 (f_X7_goesOn  σ0) := by
  unfold f_X7_goesOn
  refine zw_call (w_X7_hauls σ0) (fun p k h => by unfold W_X7_hauls at h; unfold W_X7_goesOn; omega) wr.rf (fun r1 σ2 hσ2 => ?_)
  refine zw_call (w_X7_goesOnBy r1 σ2) (fun p k h => by unfold W_X7_goesOnBy at h; unfold W_X7_goesOn; omega) hσ2 (fun r8 σ9 hσ9 => ?_)
  exact zw_some hσ9
theorem wB_X7_goesOnMany_2 (σ0 : zg_S) (a1 : Int32) (rec2_ : Int32 → zg_S → Option (Int32 × zg_S)) (x2 : Int32) (s : zg_S) (hrec2_ : ∀ (z0 : Int32) (s : zg_S), wr (W_X7_goesOnMany) σ0 s → zw (W_X7_goesOnMany) σ0 (rec2_ z0 s)) (hs : wr (W_X7_goesOnMany) σ0 s) : zw (W_X7_goesOnMany) σ0 (B_X7_goesOnMany_2 a1 rec2_ x2 s) := by
  unfold B_X7_goesOnMany_2
  refine zw_ite ?_ ?_
  · exact zw_some hs
  · refine zw_call (w_X7_goesOn s) (fun p k h => by unfold W_X7_goesOn at h; unfold W_X7_goesOnMany; omega) hs (fun r4 σ5 hσ5 => ?_)
    exact hrec2_ (x2 + 1) σ5 hσ5
theorem wL_X7_goesOnMany_2 (σ0 : zg_S) (a1 : Int32) (n : Nat) (x2 : Int32) (s : zg_S) (hs : wr (W_X7_goesOnMany) σ0 s) : zw (W_X7_goesOnMany) σ0 (L_X7_goesOnMany_2 a1 n x2 s) := by
  unfold L_X7_goesOnMany_2
  exact zwf_I (fun r hr x2 t ht => wB_X7_goesOnMany_2 σ0 a1 r x2 t hr ht) n x2 s hs
theorem w_X7_goesOnMany (a1 : Int32) (σ0 : zg_S) : zw (W_X7_goesOnMany) σ0 (f_X7_goesOnMany a1 σ0) := by
  unfold f_X7_goesOnMany
  exact wL_X7_goesOnMany_2 σ0 a1 zfu 0 σ0  wr.rf
theorem wB_X7_laysBack_2 (σ0 : zg_S) (rec2_ : Int32 → zg_S → Option (Int32 × zg_S)) (x1 : Int32) (s : zg_S) (hrec2_ : ∀ (z0 : Int32) (s : zg_S), wr (W_X7_laysBack) σ0 s → zw (W_X7_laysBack) σ0 (rec2_ z0 s)) (hs : wr (W_X7_laysBack) σ0 s) : zw (W_X7_laysBack) σ0 (B_X7_laysBack_2 rec2_ x1 s) := by
  unfold B_X7_laysBack_2
  refine zw_ite ?_ ?_
  · exact zw_some hs
  · refine zw_in (fun z1 => ?_)
    refine zw_let (fun y7 => ?_)
    refine zw_in (fun z2 => ?_)
    refine zw_up (by unfold W_X7_laysBack; omega) hs (fun σ13 hσ13 => ?_)
    exact hrec2_ (x1 + 1) σ13 hσ13
theorem wL_X7_laysBack_2 (σ0 : zg_S)  (n : Nat) (x1 : Int32) (s : zg_S) (hs : wr (W_X7_laysBack) σ0 s) : zw (W_X7_laysBack) σ0 (L_X7_laysBack_2  n x1 s) := by
  unfold L_X7_laysBack_2
  exact zwf_I (fun r hr x1 t ht => wB_X7_laysBack_2 σ0  r x1 t hr ht) n x1 s hs
theorem w_X7_laysBack  (σ0 : zg_S) : zw (W_X7_laysBack) σ0 (f_X7_laysBack  σ0) := by
  unfold f_X7_laysBack
  exact wL_X7_laysBack_2 σ0 zfu 0 σ0  wr.rf
theorem wB_X7_behind_84 (σ0 : zg_S) (a1 : Int32) (a2 : Int32) (y0 : Int32) (s : zg_S) (hs : wr (W_X7_behind) σ0 s) : zw (W_X7_behind) σ0 (B_X7_behind_84 a1 a2 y0 s) := by
  unfold B_X7_behind_84
  refine zw_call (w_X7_laysBack s) (fun p k h => by unfold W_X7_laysBack at h; unfold W_X7_behind; omega) hs (fun r3 σ4 hσ4 => ?_)
  exact zw_some hσ4
theorem w_X7_behind (a1 : Int32) (a2 : Int32) (σ0 : zg_S) : zw (W_X7_behind) σ0 (f_X7_behind a1 a2 σ0) := by
  unfold f_X7_behind
  refine zw_call (w_X7_isIn (Int32.toInt64 a1) (Int32.toInt64 0) (Int32.toInt64 100) σ0) (fun p k h => False.elim h) wr.rf (fun r10 σ11 hσ11 => ?_)
  refine zw_ite ?_ ?_
  · exact zw_some hσ11
  · refine zw_call (w_X7_isIn (Int32.toInt64 a2) (Int32.toInt64 0) (Int32.toInt64 3) σ11) (fun p k h => False.elim h) hσ11 (fun r20 σ21 hσ21 => ?_)
    refine zw_ite ?_ ?_
    · exact zw_some hσ21
    · refine zw_call (w_X7_laysBy σ21) (fun p k h => by unfold W_X7_laysBy at h; unfold W_X7_behind; omega) hσ21 (fun r29 σ30 hσ30 => ?_)
      refine zw_call (w_X7_goesOnMany a1 σ30) (fun p k h => by unfold W_X7_goesOnMany at h; unfold W_X7_behind; omega) hσ30 (fun r36 σ37 hσ37 => ?_)
      refine zw_ite ?_ ?_
      · exact wB_X7_behind_84 σ0 a1 a2 (σ37 1 4) σ37  hσ37
      · refine zw_ite ?_ ?_
        · exact wB_X7_behind_84 σ0 a1 a2 (σ37 1 3) σ37  hσ37
        · refine zw_ite ?_ ?_
          · exact wB_X7_behind_84 σ0 a1 a2 (σ37 1 7) σ37  hσ37
          · exact wB_X7_behind_84 σ0 a1 a2 (σ37 1 5) σ37  hσ37
theorem wB_X7_best_149 (σ0 : zg_S) (a1 : Int32) (a2 : Int32) (rec59_ : Int32 → Int32 → Int32 → Int32 → zg_S → Option (Int32 × zg_S)) (x3 : Int32) (x4 : Int32) (x5 : Int32) (x6 : Int32) (s : zg_S) (hrec59_ : ∀ (z0 : Int32) (z1 : Int32) (z2 : Int32) (z3 : Int32) (s : zg_S), wr (W_X7_best) σ0 s → zw (W_X7_best) σ0 (rec59_ z0 z1 z2 z3 s)) (hs : wr (W_X7_best) σ0 s) : zw (W_X7_best) σ0 (B_X7_best_149 a1 a2 rec59_ x3 x4 x5 x6 s) := by
  unfold B_X7_best_149
  exact hrec59_ x3 x4 x5 (x6 + 1) s hs
theorem wB_X7_best_141 (σ0 : zg_S) (a1 : Int32) (a2 : Int32) (rec59_ : Int32 → Int32 → Int32 → Int32 → zg_S → Option (Int32 × zg_S)) (x3 : Int32) (x6 : Int32) (x7 : Int32) (s : zg_S) (hrec59_ : ∀ (z0 : Int32) (z1 : Int32) (z2 : Int32) (z3 : Int32) (s : zg_S), wr (W_X7_best) σ0 s → zw (W_X7_best) σ0 (rec59_ z0 z1 z2 z3 s)) (hs : wr (W_X7_best) σ0 s) : zw (W_X7_best) σ0 (B_X7_best_141 a1 a2 rec59_ x3 x6 x7 s) := by
  unfold B_X7_best_141
  exact wB_X7_best_149 σ0 a1 a2 rec59_ x3 x6 x7 x6 s hrec59_ hs
theorem wB_X7_best_105 (σ0 : zg_S) (a1 : Int32) (a2 : Int32) (rec70_ : Int32 → Int32 → Int32 → Int32 → Int32 → zg_S → Option (Int32 × zg_S)) (x3 : Int32) (x4 : Int32) (x5 : Int32) (x6 : Int32) (x7 : Int32) (y0 : Int32) (s : zg_S) (hrec70_ : ∀ (z0 : Int32) (z1 : Int32) (z2 : Int32) (z3 : Int32) (z4 : Int32) (s : zg_S), wr (W_X7_best) σ0 s → zw (W_X7_best) σ0 (rec70_ z0 z1 z2 z3 z4 s)) (hs : wr (W_X7_best) σ0 s) : zw (W_X7_best) σ0 (B_X7_best_105 a1 a2 rec70_ x3 x4 x5 x6 x7 y0 s) := by
  unfold B_X7_best_105
  refine zw_call (w_X7_goesOnBy y0 s) (fun p k h => by unfold W_X7_goesOnBy at h; unfold W_X7_best; omega) hs (fun r7 σ8 hσ8 => ?_)
  exact hrec70_ x3 x4 x5 x6 (x7 / 3) σ8 hσ8
theorem wB_X7_best_70 (σ0 : zg_S) (a1 : Int32) (a2 : Int32) (rec59_ : Int32 → Int32 → Int32 → Int32 → zg_S → Option (Int32 × zg_S)) (rec70_ : Int32 → Int32 → Int32 → Int32 → Int32 → zg_S → Option (Int32 × zg_S)) (x3 : Int32) (x4 : Int32) (x5 : Int32) (x6 : Int32) (x7 : Int32) (s : zg_S) (hrec59_ : ∀ (z0 : Int32) (z1 : Int32) (z2 : Int32) (z3 : Int32) (s : zg_S), wr (W_X7_best) σ0 s → zw (W_X7_best) σ0 (rec59_ z0 z1 z2 z3 s)) (hrec70_ : ∀ (z0 : Int32) (z1 : Int32) (z2 : Int32) (z3 : Int32) (z4 : Int32) (s : zg_S), wr (W_X7_best) σ0 s → zw (W_X7_best) σ0 (rec70_ z0 z1 z2 z3 z4 s)) (hs : wr (W_X7_best) σ0 s) : zw (W_X7_best) σ0 (B_X7_best_70 a1 a2 rec59_ rec70_ x3 x4 x5 x6 x7 s) := by
  unfold B_X7_best_70
  refine zw_ite ?_ ?_
  · refine zw_call (w_X7_laysBack s) (fun p k h => by unfold W_X7_laysBack at h; unfold W_X7_best; omega) hs (fun r20 σ21 hσ21 => ?_)
    refine zw_ite ?_ ?_
    · exact wB_X7_best_141 σ0 a1 a2 rec59_ x3 x6 (s 1 4) σ21 hrec59_ hσ21
    · refine zw_ite ?_ ?_
      · exact wB_X7_best_149 σ0 a1 a2 rec59_ x3 x4 x5 x6 σ21 hrec59_ hσ21
      · exact wB_X7_best_141 σ0 a1 a2 rec59_ x3 x6 (s 1 4) σ21 hrec59_ hσ21
  · refine zw_ite zw_none ?_
    refine zw_let (fun y36 => ?_)
    refine zw_ite ?_ ?_
    · exact wB_X7_best_105 σ0 a1 a2 rec70_ x3 x4 x5 x6 x7 0 s hrec70_ hs
    · refine zw_ite ?_ ?_
      · exact wB_X7_best_105 σ0 a1 a2 rec70_ x3 x4 x5 x6 x7 (-1) s hrec70_ hs
      · exact wB_X7_best_105 σ0 a1 a2 rec70_ x3 x4 x5 x6 x7 1 s hrec70_ hs
theorem wL_X7_best_70 (σ0 : zg_S) (a1 : Int32) (a2 : Int32) (rec59_ : Int32 → Int32 → Int32 → Int32 → zg_S → Option (Int32 × zg_S)) (n : Nat) (x3 : Int32) (x4 : Int32) (x5 : Int32) (x6 : Int32) (x7 : Int32) (s : zg_S) (hrec59_ : ∀ (z0 : Int32) (z1 : Int32) (z2 : Int32) (z3 : Int32) (s : zg_S), wr (W_X7_best) σ0 s → zw (W_X7_best) σ0 (rec59_ z0 z1 z2 z3 s)) (hs : wr (W_X7_best) σ0 s) : zw (W_X7_best) σ0 (L_X7_best_70 a1 a2 rec59_ n x3 x4 x5 x6 x7 s) := by
  unfold L_X7_best_70
  exact zwf_IIIII (fun r hr x3 x4 x5 x6 x7 t ht => wB_X7_best_70 σ0 a1 a2 rec59_ r x3 x4 x5 x6 x7 t hrec59_ hr ht) n x3 x4 x5 x6 x7 s hs
theorem wB_X7_best_59 (σ0 : zg_S) (a1 : Int32) (a2 : Int32) (rec59_ : Int32 → Int32 → Int32 → Int32 → zg_S → Option (Int32 × zg_S)) (x3 : Int32) (x4 : Int32) (x5 : Int32) (x6 : Int32) (s : zg_S) (hrec59_ : ∀ (z0 : Int32) (z1 : Int32) (z2 : Int32) (z3 : Int32) (s : zg_S), wr (W_X7_best) σ0 s → zw (W_X7_best) σ0 (rec59_ z0 z1 z2 z3 s)) (hs : wr (W_X7_best) σ0 s) : zw (W_X7_best) σ0 (B_X7_best_59 a1 a2 rec59_ x3 x4 x5 x6 s) := by
  unfold B_X7_best_59
  refine zw_ite ?_ ?_
  · refine zw_ite ?_ ?_
    · exact zw_some hs
    · exact zw_some hs
  · exact wL_X7_best_70 σ0 a1 a2 rec59_ zfu x3 x4 x5 x6 x3 s hrec59_ hs
theorem wL_X7_best_59 (σ0 : zg_S) (a1 : Int32) (a2 : Int32) (n : Nat) (x3 : Int32) (x4 : Int32) (x5 : Int32) (x6 : Int32) (s : zg_S) (hs : wr (W_X7_best) σ0 s) : zw (W_X7_best) σ0 (L_X7_best_59 a1 a2 n x3 x4 x5 x6 s) := by
  unfold L_X7_best_59
  exact zwf_IIII (fun r hr x3 x4 x5 x6 t ht => wB_X7_best_59 σ0 a1 a2 r x3 x4 x5 x6 t hr ht) n x3 x4 x5 x6 s hs
theorem wB_X7_best_30 (σ0 : zg_S) (a1 : Int32) (a2 : Int32) (rec30_ : Int32 → Int32 → zg_S → Option (Int32 × zg_S)) (x3 : Int32) (x4 : Int32) (s : zg_S) (hrec30_ : ∀ (z0 : Int32) (z1 : Int32) (s : zg_S), wr (W_X7_best) σ0 s → zw (W_X7_best) σ0 (rec30_ z0 z1 s)) (hs : wr (W_X7_best) σ0 s) : zw (W_X7_best) σ0 (B_X7_best_30 a1 a2 rec30_ x3 x4 s) := by
  unfold B_X7_best_30
  refine zw_ite ?_ ?_
  · refine zw_call (w_X7_laysBy s) (fun p k h => by unfold W_X7_laysBy at h; unfold W_X7_best; omega) hs (fun r57 σ58 hσ58 => ?_)
    exact wL_X7_best_59 σ0 a1 a2 zfu x3 (-1) 0 0 σ58  hσ58
  · exact hrec30_ (x3 * 3) (x4 + 1) s hs
theorem wL_X7_best_30 (σ0 : zg_S) (a1 : Int32) (a2 : Int32) (n : Nat) (x3 : Int32) (x4 : Int32) (s : zg_S) (hs : wr (W_X7_best) σ0 s) : zw (W_X7_best) σ0 (L_X7_best_30 a1 a2 n x3 x4 s) := by
  unfold L_X7_best_30
  exact zwf_II (fun r hr x3 x4 t ht => wB_X7_best_30 σ0 a1 a2 r x3 x4 t hr ht) n x3 x4 s hs
theorem w_X7_best (a1 : Int32) (a2 : Int32) (σ0 : zg_S) : zw (W_X7_best) σ0 (f_X7_best a1 a2 σ0) := by
  unfold f_X7_best
  refine zw_call (w_X7_isIn (Int32.toInt64 a1) (Int32.toInt64 1) (Int32.toInt64 5) σ0) (fun p k h => False.elim h) wr.rf (fun r75 σ76 hσ76 => ?_)
  refine zw_ite ?_ ?_
  · exact zw_some hσ76
  · refine zw_call (w_X7_isIn (Int32.toInt64 a2) (Int32.toInt64 0) (Int32.toInt64 1) σ76) (fun p k h => False.elim h) hσ76 (fun r85 σ86 hσ86 => ?_)
    refine zw_ite ?_ ?_
    · exact zw_some hσ86
    · exact wL_X7_best_30 σ0 a1 a2 zfu 1 1 σ86  hσ86
theorem wB_X7_book_63 (σ0 : zg_S) (a1 : Int32) (rec63_ : Int32 → Int32 → zg_S → Option (Int32 × zg_S)) (x2 : Int32) (x3 : Int32) (s : zg_S) (hrec63_ : ∀ (z0 : Int32) (z1 : Int32) (s : zg_S), wr (W_X7_book) σ0 s → zw (W_X7_book) σ0 (rec63_ z0 z1 s)) (hs : wr (W_X7_book) σ0 s) : zw (W_X7_book) σ0 (B_X7_book_63 a1 rec63_ x2 x3 s) := by
  unfold B_X7_book_63
  refine zw_ite ?_ ?_
  · exact zw_some hs
  · refine zw_call (w_X7_of x3 2 s) (fun p k h => False.elim h) hs (fun r4 σ5 hσ5 => ?_)
    exact hrec63_ (x2 + r4) (x3 + 1) σ5 hσ5
theorem wL_X7_book_63 (σ0 : zg_S) (a1 : Int32) (n : Nat) (x2 : Int32) (x3 : Int32) (s : zg_S) (hs : wr (W_X7_book) σ0 s) : zw (W_X7_book) σ0 (L_X7_book_63 a1 n x2 x3 s) := by
  unfold L_X7_book_63
  exact zwf_II (fun r hr x2 x3 t ht => wB_X7_book_63 σ0 a1 r x2 x3 t hr ht) n x2 x3 s hs
theorem w_X7_book (a1 : Int32) (σ0 : zg_S) : zw (W_X7_book) σ0 (f_X7_book a1 σ0) := by
  unfold f_X7_book
  refine zw_ite ?_ ?_
  · exact zw_some wr.rf
  · refine zw_ite ?_ ?_
    · exact zw_some wr.rf
    · refine zw_ite ?_ ?_
      · exact zw_some wr.rf
      · refine zw_ite ?_ ?_
        · exact wL_X7_book_63 σ0 a1 zfu 0 0 σ0  wr.rf
        · exact zw_some wr.rf
theorem w_X7_step (a1 : Int32) (a2 : Int32) (σ0 : zg_S) : zw (W_X7_step) σ0 (f_X7_step a1 a2 σ0) := by
  unfold f_X7_step
  refine zw_in (fun z1 => ?_)
  refine zw_up (by unfold W_X7_step; omega) wr.rf (fun σ4 hσ4 => ?_)
  refine zw_in (fun z2 => ?_)
  refine zw_up (by unfold W_X7_step; omega) hσ4 (fun σ13 hσ13 => ?_)
  refine zw_up (by unfold W_X7_step; omega) hσ13 (fun σ19 hσ19 => ?_)
  exact zw_some hσ19
theorem w_X7_isLetter (a1 : Int32) (σ0 : zg_S) : zw (W_X7_isLetter) σ0 (f_X7_isLetter a1 σ0) := by
  unfold f_X7_isLetter
  refine zw_ite ?_ ?_
  · exact zw_some wr.rf
  · refine zw_in (fun z1 => ?_)
    refine zw_call (w_X7_isIn (Int32.toInt64 (σ0 13 (Int32.toNatClampNeg a1))) (Int32.toInt64 97) (Int32.toInt64 122) σ0) (fun p k h => False.elim h) wr.rf (fun r7 σ8 hσ8 => ?_)
    refine zw_ite ?_ ?_
    · exact zw_some hσ8
    · exact zw_some hσ8
theorem w_X7_isDigit (a1 : Int32) (σ0 : zg_S) : zw (W_X7_isDigit) σ0 (f_X7_isDigit a1 σ0) := by
  unfold f_X7_isDigit
  refine zw_ite ?_ ?_
  · exact zw_some wr.rf
  · refine zw_in (fun z1 => ?_)
    refine zw_call (w_X7_isIn (Int32.toInt64 (σ0 13 (Int32.toNatClampNeg a1))) (Int32.toInt64 48) (Int32.toInt64 57) σ0) (fun p k h => False.elim h) wr.rf (fun r7 σ8 hσ8 => ?_)
    refine zw_ite ?_ ?_
    · exact zw_some hσ8
    · exact zw_some hσ8
theorem wB_X7_nextToken_300 (σ0 : zg_S)  (s : zg_S) (hs : wr (W_X7_nextToken) σ0 s) : zw (W_X7_nextToken) σ0 (B_X7_nextToken_300  s) := by
  unfold B_X7_nextToken_300
  refine zw_up (by unfold W_X7_nextToken; omega) hs (fun σ1 hσ1 => ?_)
  exact zw_some hσ1
theorem wB_X7_nextToken_266 (σ0 : zg_S) (rec214_ : Int32 → zg_S → Option (Int32 × zg_S)) (x1 : Int32) (y0 : Int32) (s : zg_S) (hrec214_ : ∀ (z0 : Int32) (s : zg_S), wr (W_X7_nextToken) σ0 s → zw (W_X7_nextToken) σ0 (rec214_ z0 s)) (hs : wr (W_X7_nextToken) σ0 s) : zw (W_X7_nextToken) σ0 (B_X7_nextToken_266 rec214_ x1 y0 s) := by
  unfold B_X7_nextToken_266
  refine zw_up (by unfold W_X7_nextToken; omega) hs (fun σ7 hσ7 => ?_)
  refine zw_up (by unfold W_X7_nextToken; omega) hσ7 (fun σ13 hσ13 => ?_)
  exact hrec214_ x1 σ13 hσ13
theorem wB_X7_nextToken_214 (σ0 : zg_S) (rec214_ : Int32 → zg_S → Option (Int32 × zg_S)) (x1 : Int32) (s : zg_S) (hrec214_ : ∀ (z0 : Int32) (s : zg_S), wr (W_X7_nextToken) σ0 s → zw (W_X7_nextToken) σ0 (rec214_ z0 s)) (hs : wr (W_X7_nextToken) σ0 s) : zw (W_X7_nextToken) σ0 (B_X7_nextToken_214 rec214_ x1 s) := by
  unfold B_X7_nextToken_214
  refine zw_call (w_X7_isDigit (s 0 16) s) (fun p k h => False.elim h) hs (fun r19 σ20 hσ20 => ?_)
  refine zw_ite ?_ ?_
  · refine zw_ite ?_ ?_
    · refine zw_ite ?_ ?_
      · refine zw_up (by unfold W_X7_nextToken; omega) hσ20 (fun σ33 hσ33 => ?_)
        exact zw_some hσ33
      · exact wB_X7_nextToken_300 σ0  σ20  hσ20
    · exact wB_X7_nextToken_300 σ0  σ20  hσ20
  · refine zw_ite ?_ ?_
    · exact wB_X7_nextToken_266 σ0 rec214_ x1 (σ20 0 18) σ20 hrec214_ hσ20
    · refine zw_in (fun z1 => ?_)
      exact wB_X7_nextToken_266 σ0 rec214_ x1 (((10 * (σ20 0 18)) + (σ20 13 (Int32.toNatClampNeg (σ20 0 16)))) - 48) σ20 hrec214_ hσ20
theorem wL_X7_nextToken_214 (σ0 : zg_S)  (n : Nat) (x1 : Int32) (s : zg_S) (hs : wr (W_X7_nextToken) σ0 s) : zw (W_X7_nextToken) σ0 (L_X7_nextToken_214  n x1 s) := by
  unfold L_X7_nextToken_214
  exact zwf_I (fun r hr x1 t ht => wB_X7_nextToken_214 σ0  r x1 t hr ht) n x1 s hs
theorem wB_X7_nextToken_162 (σ0 : zg_S) (y0 : Int32) (s : zg_S) (hs : wr (W_X7_nextToken) σ0 s) : zw (W_X7_nextToken) σ0 (B_X7_nextToken_162 y0 s) := by
  unfold B_X7_nextToken_162
  refine zw_up (by unfold W_X7_nextToken; omega) hs (fun σ47 hσ47 => ?_)
  refine zw_ite ?_ ?_
  · refine zw_in (fun z1 => ?_)
    refine zw_let (fun y65 => ?_)
    refine zw_up (by unfold W_X7_nextToken; omega) hσ47 (fun σ68 hσ68 => ?_)
    exact zw_some hσ68
  · refine zw_up (by unfold W_X7_nextToken; omega) hσ47 (fun σ55 hσ55 => ?_)
    exact zw_some hσ55
theorem wB_X7_nextToken_128 (σ0 : zg_S) (rec128_ : Int32 → zg_S → Option (Int32 × zg_S)) (x1 : Int32) (s : zg_S) (hrec128_ : ∀ (z0 : Int32) (s : zg_S), wr (W_X7_nextToken) σ0 s → zw (W_X7_nextToken) σ0 (rec128_ z0 s)) (hs : wr (W_X7_nextToken) σ0 s) : zw (W_X7_nextToken) σ0 (B_X7_nextToken_128 rec128_ x1 s) := by
  unfold B_X7_nextToken_128
  refine zw_call (w_X7_isLetter (s 0 16) s) (fun p k h => False.elim h) hs (fun r74 σ75 hσ75 => ?_)
  refine zw_ite ?_ ?_
  · refine zw_ite ?_ ?_
    · exact wB_X7_nextToken_162 σ0 1 σ75  hσ75
    · exact wB_X7_nextToken_162 σ0 4 σ75  hσ75
  · refine zw_up (by unfold W_X7_nextToken; omega) hσ75 (fun σ87 hσ87 => ?_)
    exact hrec128_ x1 σ87 hσ87
theorem wL_X7_nextToken_128 (σ0 : zg_S)  (n : Nat) (x1 : Int32) (s : zg_S) (hs : wr (W_X7_nextToken) σ0 s) : zw (W_X7_nextToken) σ0 (L_X7_nextToken_128  n x1 s) := by
  unfold L_X7_nextToken_128
  exact zwf_I (fun r hr x1 t ht => wB_X7_nextToken_128 σ0  r x1 t hr ht) n x1 s hs
theorem wB_X7_nextToken_89 (σ0 : zg_S) (y0 : Int32) (s : zg_S) (hs : wr (W_X7_nextToken) σ0 s) : zw (W_X7_nextToken) σ0 (B_X7_nextToken_89 y0 s) := by
  unfold B_X7_nextToken_89
  refine zw_up (by unfold W_X7_nextToken; omega) hs (fun σ95 hσ95 => ?_)
  refine zw_ite ?_ ?_
  · refine zw_up (by unfold W_X7_nextToken; omega) hσ95 (fun σ154 hσ154 => ?_)
    exact zw_some hσ154
  · refine zw_call (w_X7_isLetter (σ95 0 15) σ95) (fun p k h => False.elim h) hσ95 (fun r103 σ104 hσ104 => ?_)
    refine zw_ite ?_ ?_
    · refine zw_call (w_X7_isDigit (σ104 0 15) σ104) (fun p k h => False.elim h) hσ104 (fun r112 σ113 hσ113 => ?_)
      refine zw_ite ?_ ?_
      · refine zw_up (by unfold W_X7_nextToken; omega) hσ113 (fun σ121 hσ121 => ?_)
        refine zw_in (fun z1 => ?_)
        refine zw_let (fun y130 => ?_)
        refine zw_up (by unfold W_X7_nextToken; omega) hσ121 (fun σ133 hσ133 => ?_)
        refine zw_up (by unfold W_X7_nextToken; omega) hσ133 (fun σ139 hσ139 => ?_)
        exact zw_some hσ139
      · refine zw_up (by unfold W_X7_nextToken; omega) hσ113 (fun σ146 hσ146 => ?_)
        exact wL_X7_nextToken_214 σ0 zfu y0 σ146  hσ146
    · exact wL_X7_nextToken_128 σ0 zfu y0 σ104  hσ104
theorem wB_X7_nextToken_88 (σ0 : zg_S)  (s : zg_S) (hs : wr (W_X7_nextToken) σ0 s) : zw (W_X7_nextToken) σ0 (B_X7_nextToken_88  s) := by
  unfold B_X7_nextToken_88
  exact wB_X7_nextToken_89 σ0 0 s  hs
theorem wB_X7_nextToken_72 (σ0 : zg_S) (x1 : Int32) (x2 : Int32) (s : zg_S) (hs : wr (W_X7_nextToken) σ0 s) : zw (W_X7_nextToken) σ0 (B_X7_nextToken_72 x1 x2 s) := by
  unfold B_X7_nextToken_72
  refine zw_ite ?_ ?_
  · exact wB_X7_nextToken_88 σ0  s  hs
  · refine zw_ite ?_ ?_
    · exact wB_X7_nextToken_89 σ0 1 s  hs
    · exact wB_X7_nextToken_88 σ0  s  hs
theorem wB_X7_nextToken_34 (σ0 : zg_S) (rec34_ : Int32 → Int32 → zg_S → Option (Int32 × zg_S)) (x1 : Int32) (x2 : Int32) (s : zg_S) (hrec34_ : ∀ (z0 : Int32) (z1 : Int32) (s : zg_S), wr (W_X7_nextToken) σ0 s → zw (W_X7_nextToken) σ0 (rec34_ z0 z1 s)) (hs : wr (W_X7_nextToken) σ0 s) : zw (W_X7_nextToken) σ0 (B_X7_nextToken_34 rec34_ x1 x2 s) := by
  unfold B_X7_nextToken_34
  refine zw_ite ?_ ?_
  · exact wB_X7_nextToken_72 σ0 x1 x2 s  hs
  · refine zw_in (fun z1 => ?_)
    refine zw_ite ?_ ?_
    · refine zw_up (by unfold W_X7_nextToken; omega) hs (fun σ175 hσ175 => ?_)
      exact hrec34_ x1 x2 σ175 hσ175
    · exact wB_X7_nextToken_72 σ0 x1 x2 s  hs
theorem wL_X7_nextToken_34 (σ0 : zg_S)  (n : Nat) (x1 : Int32) (x2 : Int32) (s : zg_S) (hs : wr (W_X7_nextToken) σ0 s) : zw (W_X7_nextToken) σ0 (L_X7_nextToken_34  n x1 x2 s) := by
  unfold L_X7_nextToken_34
  exact zwf_II (fun r hr x1 x2 t ht => wB_X7_nextToken_34 σ0  r x1 x2 t hr ht) n x1 x2 s hs
theorem wB_X7_nextToken_28 (σ0 : zg_S) (y0 : Int32) (s : zg_S) (hs : wr (W_X7_nextToken) σ0 s) : zw (W_X7_nextToken) σ0 (B_X7_nextToken_28 y0 s) := by
  unfold B_X7_nextToken_28
  exact wL_X7_nextToken_34 σ0 zfu y0 (s 0 16) s  hs
theorem wB_X7_nextToken_27 (σ0 : zg_S)  (s : zg_S) (hs : wr (W_X7_nextToken) σ0 s) : zw (W_X7_nextToken) σ0 (B_X7_nextToken_27  s) := by
  unfold B_X7_nextToken_27
  exact wB_X7_nextToken_28 σ0 0 s  hs
theorem wB_X7_nextToken_23 (σ0 : zg_S)  (s : zg_S) (hs : wr (W_X7_nextToken) σ0 s) : zw (W_X7_nextToken) σ0 (B_X7_nextToken_23  s) := by
  unfold B_X7_nextToken_23
  exact wB_X7_nextToken_28 σ0 1 s  hs
theorem w_X7_nextToken  (σ0 : zg_S) : zw (W_X7_nextToken) σ0 (f_X7_nextToken  σ0) := by
  unfold f_X7_nextToken
  refine zw_ite ?_ ?_
  · exact wB_X7_nextToken_27 σ0  σ0  wr.rf
  · refine zw_ite ?_ ?_
    · exact wB_X7_nextToken_23 σ0  σ0  wr.rf
    · refine zw_ite ?_ ?_
      · exact wB_X7_nextToken_23 σ0  σ0  wr.rf
      · exact wB_X7_nextToken_27 σ0  σ0  wr.rf
theorem w_X7_isName (a0 : Int32) (a1 : Int32) (σ0 : zg_S) : zw (W_X7_isName) σ0 (f_X7_isName a0 a1 σ0) := by
  unfold f_X7_isName
  refine zw_ite ?_ ?_
  · refine zw_ite ?_ ?_
    · exact zw_some wr.rf
    · refine zw_ite ?_ ?_
      · exact zw_some wr.rf
      · refine zw_ite ?_ ?_
        · exact zw_some wr.rf
        · exact zw_some wr.rf
  · refine zw_ite ?_ ?_
    · refine zw_ite ?_ ?_
      · exact zw_some wr.rf
      · refine zw_ite ?_ ?_
        · exact zw_some wr.rf
        · exact zw_some wr.rf
    · refine zw_ite ?_ ?_
      · exact zw_some wr.rf
      · refine zw_ite ?_ ?_
        · exact zw_some wr.rf
        · exact zw_some wr.rf
theorem w_X7_isSign (a1 : Int32) (σ0 : zg_S) : zw (W_X7_isSign) σ0 (f_X7_isSign a1 σ0) := by
  unfold f_X7_isSign
  refine zw_ite ?_ ?_
  · refine zw_ite ?_ ?_
    · exact zw_some wr.rf
    · exact zw_some wr.rf
  · exact zw_some wr.rf
