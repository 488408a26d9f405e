theorem wB_X2_become_18 (σ0 : zg_S) (q0 : Nat) (a1 : Int32) (a2 : Int32) (rec18_ : Int32 → zg_S → Option (Int32 × zg_S)) (x3 : Int32) (s : zg_S) (hrec18_ : ∀ (z0 : Int32) (s : zg_S), wr (W_X2_become q0) σ0 s → zw (W_X2_become q0) σ0 (rec18_ z0 s)) (hs : wr (W_X2_become q0) σ0 s) : zw (W_X2_become q0) σ0 (B_X2_become_18 q0 a1 a2 rec18_ x3 s) := by
  unfold B_X2_become_18
  refine zw_ite ?_ ?_
  · exact zw_some hs
  · refine zw_in (fun z1 => ?_)
    refine zw_up (by unfold W_X2_become; omega) hs (fun σ7 hσ7 => ?_)
    exact hrec18_ (x3 + 1) σ7 hσ7
theorem wL_X2_become_18 (σ0 : zg_S) (q0 : Nat) (a1 : Int32) (a2 : Int32) (n : Nat) (x3 : Int32) (s : zg_S) (hs : wr (W_X2_become q0) σ0 s) : zw (W_X2_become q0) σ0 (L_X2_become_18 q0 a1 a2 n x3 s) := by
  unfold L_X2_become_18
  exact zwf_I (fun r hr x3 t ht => wB_X2_become_18 σ0 q0 a1 a2 r x3 t hr ht) n x3 s hs
theorem w_X2_become (q0 : Nat) (a1 : Int32) (a2 : Int32) (σ0 : zg_S) : zw (W_X2_become q0) σ0 (f_X2_become q0 a1 a2 σ0) := by
  unfold f_X2_become
  refine zw_up (by unfold W_X2_become; omega) wr.rf (fun σ15 hσ15 => ?_)
  refine zw_call (w_X6_held a2 0 24 σ15) (fun p k h => False.elim h) hσ15 (fun r21 σ22 hσ22 => ?_)
  refine zw_up (by unfold W_X2_become; omega) hσ22 (fun σ28 hσ28 => ?_)
  exact wL_X2_become_18 σ0 q0 a1 a2 zfu 0 σ28  hσ28
theorem w_X2_hasPlaces (q0 : Nat) (a1 : Int32) (a2 : Int32) (σ0 : zg_S) : zw (W_X2_hasPlaces) σ0 (f_X2_hasPlaces q0 a1 a2 σ0) := by
  unfold f_X2_hasPlaces
  refine zw_ite ?_ ?_
  · exact zw_some wr.rf
  · refine zw_ite ?_ ?_
    · exact zw_some wr.rf
    · refine zw_ite ?_ ?_
      · exact zw_some wr.rf
      · exact zw_some wr.rf
theorem w_X2_isMissing (q0 : Nat) (σ0 : zg_S) : zw (W_X2_isMissing) σ0 (f_X2_isMissing q0 σ0) := by
  unfold f_X2_isMissing
  refine zw_ite ?_ ?_
  · exact zw_some wr.rf
  · exact zw_some wr.rf
theorem w_X2_takeOver (q0 : Nat) (q1 : Nat) (σ0 : zg_S) : zw (W_X2_takeOver q0) σ0 (f_X2_takeOver q0 q1 σ0) := by
  unfold f_X2_takeOver
  refine zw_up (by unfold W_X2_takeOver; omega) wr.rf (fun σ1 hσ1 => ?_)
  refine zw_up (by unfold W_X2_takeOver; omega) hσ1 (fun σ7 hσ7 => ?_)
  refine zw_ite ?_ zw_none
  refine zw_row (fun j => by unfold W_X2_takeOver; omega) hσ7 (fun σ19 hσ19 => ?_)
  exact zw_some hσ19
theorem w_X3_refuses (q0 : Nat) (a1 : Int32) (σ0 : zg_S) : zw (W_X3_refuses) σ0 (f_X3_refuses q0 a1 σ0) := by
  unfold f_X3_refuses
  refine zw_ite ?_ ?_
  · exact zw_some wr.rf
  · refine zw_ite ?_ ?_
    · exact zw_some wr.rf
    · exact zw_some wr.rf
theorem wB_X4_isOf_7 (σ0 : zg_S) (q0 : Nat) (a1 : Int32) (rec7_ : Int32 → Int32 → zg_S → Option (Int32 × zg_S)) (x2 : Int32) (x3 : Int32) (s : zg_S) (hrec7_ : ∀ (z0 : Int32) (z1 : Int32) (s : zg_S), wr (W_X4_isOf) σ0 s → zw (W_X4_isOf) σ0 (rec7_ z0 z1 s)) (hs : wr (W_X4_isOf) σ0 s) : zw (W_X4_isOf) σ0 (B_X4_isOf_7 q0 a1 rec7_ x2 x3 s) := by
  unfold B_X4_isOf_7
  refine zw_ite ?_ ?_
  · exact zw_some hs
  · refine zw_call (w_X6_within x2 0 5 s) (fun p k h => False.elim h) hs (fun r4 σ5 hσ5 => ?_)
    refine zw_ite ?_ ?_
    · exact zw_some hσ5
    · refine zw_ite ?_ ?_
      · exact zw_some hσ5
      · refine zw_in (fun z1 => ?_)
        refine zw_let (fun y19 => ?_)
        exact hrec7_ y19 (x3 + 1) σ5 hσ5
theorem wL_X4_isOf_7 (σ0 : zg_S) (q0 : Nat) (a1 : Int32) (n : Nat) (x2 : Int32) (x3 : Int32) (s : zg_S) (hs : wr (W_X4_isOf) σ0 s) : zw (W_X4_isOf) σ0 (L_X4_isOf_7 q0 a1 n x2 x3 s) := by
  unfold L_X4_isOf_7
  exact zwf_II (fun r hr x2 x3 t ht => wB_X4_isOf_7 σ0 q0 a1 r x2 x3 t hr ht) n x2 x3 s hs
theorem w_X4_isOf (q0 : Nat) (a1 : Int32) (σ0 : zg_S) : zw (W_X4_isOf) σ0 (f_X4_isOf q0 a1 σ0) := by
  unfold f_X4_isOf
  exact wL_X4_isOf_7 σ0 q0 a1 zfu (σ0 q0 0) 0 σ0  wr.rf
theorem w_X4_worth (q0 : Nat) (σ0 : zg_S) : zw (W_X4_worth) σ0 (f_X4_worth q0 σ0) := by
  unfold f_X4_worth
  refine zw_ite ?_ ?_
  · exact zw_some wr.rf
  · refine zw_ite ?_ ?_
    · exact zw_some wr.rf
    · refine zw_ite ?_ ?_
      · exact zw_some wr.rf
      · refine zw_ite ?_ ?_
        · exact zw_some wr.rf
        · refine zw_ite ?_ ?_
          · exact zw_some wr.rf
          · exact zw_some wr.rf
theorem w_X6_isStall (a1 : Int32) (σ0 : zg_S) : zw (W_X6_isStall) σ0 (f_X6_isStall a1 σ0) := by
  unfold f_X6_isStall
  refine zw_call (w_X6_within a1 0 ((σ0 153 3) - 1) σ0) (fun p k h => False.elim h) wr.rf (fun r1 σ2 hσ2 => ?_)
  refine zw_ite ?_ zw_none
  exact zw_some hσ2
theorem w_X6_as (a1 : Int32) (a2 : Int32) (σ0 : zg_S) : zw (W_X6_as) σ0 (f_X6_as a1 a2 σ0) := by
  unfold f_X6_as
  refine zw_call (w_X6_isStall a1 σ0) (fun p k h => False.elim h) wr.rf (fun r1 σ2 hσ2 => ?_)
  refine zw_ite ?_ ?_
  · exact zw_some hσ2
  · refine zw_call (w_X6_within a2 0 5 σ2) (fun p k h => False.elim h) hσ2 (fun r11 σ12 hσ12 => ?_)
    refine zw_ite ?_ ?_
    · exact zw_some hσ12
    · refine zw_in (fun z1 => ?_)
      refine zw_call (w_X4_isOf (154 + 2 + (Int32.toNatClampNeg a1)) a2 σ12) (fun p k h => False.elim h) hσ12 (fun r25 σ26 hσ26 => ?_)
      refine zw_ite ?_ ?_
      · exact zw_some hσ26
      · exact zw_some hσ26
theorem w_X6_isSlot (a0 : Int32) (σ0 : zg_S) : zw (W_X6_isSlot) σ0 (f_X6_isSlot a0 σ0) := by
  unfold f_X6_isSlot
  refine zw_call (w_X6_within a0 0 4 σ0) (fun p k h => False.elim h) wr.rf (fun r1 σ2 hσ2 => ?_)
  refine zw_ite ?_ zw_none
  exact zw_some hσ2
theorem w_X6_ask (a1 : Int32) (a2 : Int32) (σ0 : zg_S) : zw (W_X6_ask) σ0 (f_X6_ask a1 a2 σ0) := by
  unfold f_X6_ask
  refine zw_call (w_X6_isSlot a1 σ0) (fun p k h => False.elim h) wr.rf (fun r1 σ2 hσ2 => ?_)
  refine zw_ite ?_ ?_
  · exact zw_some hσ2
  · refine zw_call (w_X6_within a2 0 5 σ2) (fun p k h => False.elim h) hσ2 (fun r11 σ12 hσ12 => ?_)
    refine zw_ite ?_ ?_
    · exact zw_some hσ12
    · refine zw_in (fun z1 => ?_)
      refine zw_call (w_X3_refuses (61 + 4 * (Int32.toNatClampNeg a1)) 1 σ12) (fun p k h => False.elim h) hσ12 (fun r23 σ24 hσ24 => ?_)
      refine zw_ite ?_ ?_
      · refine zw_call (w_X4_isOf ((61 + 4 * (Int32.toNatClampNeg a1)) + 1) a2 σ24) (fun p k h => False.elim h) hσ24 (fun r36 σ37 hσ37 => ?_)
        refine zw_ite ?_ ?_
        · exact zw_some hσ37
        · refine zw_call (w_X4_worth ((61 + 4 * (Int32.toNatClampNeg a1)) + 1) σ37) (fun p k h => False.elim h) hσ37 (fun r46 σ47 hσ47 => ?_)
          exact zw_some hσ47
      · exact zw_some hσ24
theorem w_X6_back  (σ0 : zg_S) : zw (W_X6_back) σ0 (f_X6_back  σ0) := by
  unfold f_X6_back
  refine zw_ite ?_ ?_
  · exact zw_some wr.rf
  · refine zw_call (w_X0_takeOver 153 177 σ0) (fun p k h => by unfold W_X0_takeOver at h; unfold W_X6_back; omega) wr.rf (fun r3 σ4 hσ4 => ?_)
    exact zw_some hσ4
theorem wB_X6_thinkOn_2 (σ0 : zg_S) (a1 : Int32) (rec2_ : Int32 → zg_S → Option (Int32 × zg_S)) (x2 : Int32) (s : zg_S) (hrec2_ : ∀ (z0 : Int32) (s : zg_S), wr (W_X6_thinkOn) σ0 s → zw (W_X6_thinkOn) σ0 (rec2_ z0 s)) (hs : wr (W_X6_thinkOn) σ0 s) : zw (W_X6_thinkOn) σ0 (B_X6_thinkOn_2 a1 rec2_ x2 s) := by
  unfold B_X6_thinkOn_2
  refine zw_ite ?_ ?_
  · exact zw_some hs
  · refine zw_call (w_X0_hauling 165 s) (fun p k h => by unfold W_X0_hauling at h; unfold W_X6_thinkOn; omega) hs (fun r4 σ5 hσ5 => ?_)
    refine zw_call (w_X0_passHour 165 r4 σ5) (fun p k h => by unfold W_X0_passHour at h; unfold W_X6_thinkOn; omega) hσ5 (fun r11 σ12 hσ12 => ?_)
    exact hrec2_ (x2 + 1) σ12 hσ12
theorem wL_X6_thinkOn_2 (σ0 : zg_S) (a1 : Int32) (n : Nat) (x2 : Int32) (s : zg_S) (hs : wr (W_X6_thinkOn) σ0 s) : zw (W_X6_thinkOn) σ0 (L_X6_thinkOn_2 a1 n x2 s) := by
  unfold L_X6_thinkOn_2
  exact zwf_I (fun r hr x2 t ht => wB_X6_thinkOn_2 σ0 a1 r x2 t hr ht) n x2 s hs
theorem w_X6_thinkOn (a1 : Int32) (σ0 : zg_S) : zw (W_X6_thinkOn) σ0 (f_X6_thinkOn a1 σ0) := by
  unfold f_X6_thinkOn
  exact wL_X6_thinkOn_2 σ0 a1 zfu 0 σ0  wr.rf
theorem w_X6_behind (a1 : Int32) (a2 : Int32) (σ0 : zg_S) : zw (W_X6_behind) σ0 (f_X6_behind a1 a2 σ0) := by
  unfold f_X6_behind
  refine zw_call (w_X6_within a1 0 100 σ0) (fun p k h => False.elim h) wr.rf (fun r1 σ2 hσ2 => ?_)
  refine zw_ite ?_ ?_
  · exact zw_some hσ2
  · refine zw_call (w_X6_within a2 0 3 σ2) (fun p k h => False.elim h) hσ2 (fun r11 σ12 hσ12 => ?_)
    refine zw_ite ?_ ?_
    · exact zw_some hσ12
    · refine zw_call (w_X0_takeOver 165 153 σ12) (fun p k h => by unfold W_X0_takeOver at h; unfold W_X6_behind; omega) hσ12 (fun r20 σ21 hσ21 => ?_)
      refine zw_call (w_X6_thinkOn a1 σ21) (fun p k h => by unfold W_X6_thinkOn at h; unfold W_X6_behind; omega) hσ21 (fun r27 σ28 hσ28 => ?_)
      refine zw_ite ?_ ?_
      · exact zw_some hσ28
      · refine zw_ite ?_ ?_
        · exact zw_some hσ28
        · refine zw_ite ?_ ?_
          · exact zw_some hσ28
          · exact zw_some hσ28
theorem wB_X6_tryHaulings_59 (σ0 : zg_S) (rec : Nat → Int32 → Int32 → Int32 → zg_S → Option (Int32 × zg_S)) (a1 : Int32) (a2 : Int32) (a3 : Int32) (rec59_ : Nat → Int32 → zg_S → Option (Int32 × zg_S)) (q4v : Nat) (x5 : Int32) (s : zg_S) (hrec : ∀ (z0 : Nat) (z1 : Int32) (z2 : Int32) (z3 : Int32) (s : zg_S), wr (W_G_th) σ0 s → zw (W_G_th) σ0 (rec z0 z1 z2 z3 s)) (hrec59_ : ∀ (z0 : Nat) (z1 : Int32) (s : zg_S), wr (W_G_th) σ0 s → zw (W_G_th) σ0 (rec59_ z0 z1 s)) (hs : wr (W_G_th) σ0 s) : zw (W_G_th) σ0 (B_X6_tryHaulings_59 rec a1 a2 a3 rec59_ q4v x5 s) := by
  unfold B_X6_tryHaulings_59
  refine zw_ite ?_ ?_
  · exact zw_some hs
  · refine zw_in (fun z1 => ?_)
    refine zw_call (w_X0_takeOver (81 + 12 * (Int32.toNatClampNeg (a1 + 1))) q4v s) (fun p k h => by unfold W_X0_takeOver at h; unfold W_G_th; omega) hs (fun r19 σ20 hσ20 => ?_)
    refine zw_call (w_X0_passHour (81 + 12 * (Int32.toNatClampNeg (a1 + 1))) x5 σ20) (fun p k h => by unfold W_X0_passHour at h; unfold W_G_th; omega) hσ20 (fun r26 σ27 hσ27 => ?_)
    refine zw_rec (hrec 0 (a1 + 1) a2 ((a3 * 3) + x5) σ27 hσ27) (fun r33 σ34 hσ34 => ?_)
    exact hrec59_ q4v (x5 + 1) σ34 hσ34
theorem wL_X6_tryHaulings_59 (σ0 : zg_S) (rec : Nat → Int32 → Int32 → Int32 → zg_S → Option (Int32 × zg_S)) (a1 : Int32) (a2 : Int32) (a3 : Int32) (n : Nat) (q4v : Nat) (x5 : Int32) (s : zg_S) (hrec : ∀ (z0 : Nat) (z1 : Int32) (z2 : Int32) (z3 : Int32) (s : zg_S), wr (W_G_th) σ0 s → zw (W_G_th) σ0 (rec z0 z1 z2 z3 s)) (hs : wr (W_G_th) σ0 s) : zw (W_G_th) σ0 (L_X6_tryHaulings_59 rec a1 a2 a3 n q4v x5 s) := by
  unfold L_X6_tryHaulings_59
  exact zwf_NI (fun r hr q4v x5 t ht => wB_X6_tryHaulings_59 σ0 rec a1 a2 a3 r q4v x5 t hrec hr ht) n q4v x5 s hs
theorem w_X6_tryHaulings (σ0 : zg_S) (rec : Nat → Int32 → Int32 → Int32 → zg_S → Option (Int32 × zg_S)) (a1 : Int32) (a2 : Int32) (a3 : Int32) (s : zg_S) (hrec : ∀ (z0 : Nat) (z1 : Int32) (z2 : Int32) (z3 : Int32) (s : zg_S), wr (W_G_th) σ0 s → zw (W_G_th) σ0 (rec z0 z1 z2 z3 s)) (hs : wr (W_G_th) σ0 s) : zw (W_G_th) σ0 (f_X6_tryHaulings rec a1 a2 a3 s) := by
  unfold f_X6_tryHaulings
  refine zw_ite ?_ ?_
  · exact zw_some hs
  · refine zw_ite ?_ ?_
    · refine zw_in (fun z1 => ?_)
      refine zw_ite ?_ ?_
      · refine zw_ite ?_ ?_
        · unfold B_X6_tryHaulings_41
          refine zw_up (by unfold W_G_th; omega) hs (fun σ1 hσ1 => ?_)
          refine zw_up (by unfold W_G_th; omega) hσ1 (fun σ7 hσ7 => ?_)
          exact zw_some hσ7
        · refine zw_ite ?_ ?_
          · unfold B_X6_tryHaulings_41
            refine zw_up (by unfold W_G_th; omega) hs (fun σ1 hσ1 => ?_)
            refine zw_up (by unfold W_G_th; omega) hσ1 (fun σ7 hσ7 => ?_)
            exact zw_some hσ7
          · exact wL_X6_tryHaulings_59 σ0 rec a1 a2 a3 zfu (81 + 12 * (Int32.toNatClampNeg a1)) 0 s hrec hs
      · exact zw_some hs
    · exact zw_some hs
theorem wG_th (σ0 : zg_S) : ∀ (d tag : Nat) (z0 : Int32) (z1 : Int32) (z2 : Int32) (s : zg_S), wr W_G_th σ0 s → zw W_G_th σ0 (G_th d tag z0 z1 z2 s) := by
  intro d
  induction d with
  | zero => intro tag z0 z1 z2 s _; exact zw_none
  | succ d ih =>
    intro tag z0 z1 z2 s hs
    exact w_X6_tryHaulings σ0 (G_th d) z0 z1 z2 s ih hs
theorem w_G_th (d tag : Nat) (z0 : Int32) (z1 : Int32) (z2 : Int32) (σ0 : zg_S) : zw W_G_th σ0 (G_th d tag z0 z1 z2 σ0) := wG_th σ0 d tag z0 z1 z2 σ0 wr.rf
theorem w_X6_best (a1 : Int32) (a2 : Int32) (σ0 : zg_S) : zw (W_X6_best) σ0 (f_X6_best a1 a2 σ0) := by
  unfold f_X6_best
  refine zw_call (w_X6_within a1 1 5 σ0) (fun p k h => False.elim h) wr.rf (fun r1 σ2 hσ2 => ?_)
  refine zw_ite ?_ ?_
  · exact zw_some hσ2
  · refine zw_call (w_X6_within a2 0 1 σ2) (fun p k h => False.elim h) hσ2 (fun r11 σ12 hσ12 => ?_)
    refine zw_ite ?_ ?_
    · exact zw_some hσ12
    · refine zw_up (by unfold W_X6_best; omega) hσ12 (fun σ20 hσ20 => ?_)
      refine zw_up (by unfold W_X6_best; omega) hσ20 (fun σ26 hσ26 => ?_)
      refine zw_call (w_X0_takeOver 81 153 σ26) (fun p k h => by unfold W_X0_takeOver at h; unfold W_X6_best; omega) hσ26 (fun r32 σ33 hσ33 => ?_)
      refine zw_call (w_G_th 8 0 0 a1 0 σ33) (fun p k h => by unfold W_G_th at h; unfold W_X6_best; omega) hσ33 (fun r39 σ40 hσ40 => ?_)
      refine zw_ite ?_ ?_
      · exact zw_some hσ40
      · exact zw_some hσ40
theorem w_X6_book (a1 : Int32) (σ0 : zg_S) : zw (W_X6_book) σ0 (f_X6_book a1 σ0) := by
  unfold f_X6_book
  refine zw_ite ?_ ?_
  · exact zw_some wr.rf
  · refine zw_ite ?_ ?_
    · exact zw_some wr.rf
    · refine zw_ite ?_ ?_
      · exact zw_some wr.rf
      · refine zw_ite ?_ ?_
        · refine zw_call (w_X0_allGoods 153 σ0) (fun p k h => False.elim h) wr.rf (fun r12 σ13 hσ13 => ?_)
          exact zw_some hσ13
        · exact zw_some wr.rf
theorem wB_X6_check_113 (σ0 : zg_S) (a1 : Int32) (x5 : Int32) (s : zg_S) (hs : wr (W_X6_check) σ0 s) : zw (W_X6_check) σ0 (B_X6_check_113 a1 x5 s) := by
  unfold B_X6_check_113
  exact zw_some hs
theorem wB_X6_check_145 (σ0 : zg_S) (a1 : Int32) (x5 : Int32) (s : zg_S) (hs : wr (W_X6_check) σ0 s) : zw (W_X6_check) σ0 (B_X6_check_145 a1 x5 s) := by
  unfold B_X6_check_145
  exact zw_some hs
theorem wB_X6_check_64 (σ0 : zg_S) (a1 : Int32) (rec64_ : Int32 → Int32 → Int32 → zg_S → Option (Int32 × zg_S)) (x2 : Int32) (x3 : Int32) (x4 : Int32) (s : zg_S) (hrec64_ : ∀ (z0 : Int32) (z1 : Int32) (z2 : Int32) (s : zg_S), wr (W_X6_check) σ0 s → zw (W_X6_check) σ0 (rec64_ z0 z1 z2 s)) (hs : wr (W_X6_check) σ0 s) : zw (W_X6_check) σ0 (B_X6_check_64 a1 rec64_ x2 x3 x4 s) := by
  unfold B_X6_check_64
  refine zw_ite ?_ ?_
  · refine zw_ite ?_ ?_
    · exact zw_some hs
    · exact zw_some hs
  · refine zw_call (w_X0_hauling 165 s) (fun p k h => by unfold W_X0_hauling at h; unfold W_X6_check; omega) hs (fun r9 σ10 hσ10 => ?_)
    refine zw_call (w_X0_passHour 165 r9 σ10) (fun p k h => by unfold W_X0_passHour at h; unfold W_X6_check; omega) hσ10 (fun r16 σ17 hσ17 => ?_)
    refine zw_ite ?_ ?_
    · exact wB_X6_check_113 σ0 a1 (2 * x4) σ17  hσ17
    · refine zw_in (fun z1 => ?_)
      refine zw_ite ?_ ?_
      · refine zw_ite ?_ ?_
        · exact wB_X6_check_145 σ0 a1 (2 * x4) σ17  hσ17
        · refine zw_in (fun z2 => ?_)
          refine zw_ite ?_ ?_
          · exact hrec64_ x2 x3 (x4 + 1) σ17 hσ17
          · exact wB_X6_check_145 σ0 a1 (2 * x4) σ17  hσ17
      · exact wB_X6_check_113 σ0 a1 (2 * x4) σ17  hσ17
theorem wL_X6_check_64 (σ0 : zg_S) (a1 : Int32) (n : Nat) (x2 : Int32) (x3 : Int32) (x4 : Int32) (s : zg_S) (hs : wr (W_X6_check) σ0 s) : zw (W_X6_check) σ0 (L_X6_check_64 a1 n x2 x3 x4 s) := by
  unfold L_X6_check_64
  exact zwf_III (fun r hr x2 x3 x4 t ht => wB_X6_check_64 σ0 a1 r x2 x3 x4 t hr ht) n x2 x3 x4 s hs
theorem w_X6_check (a1 : Int32) (σ0 : zg_S) : zw (W_X6_check) σ0 (f_X6_check a1 σ0) := by
  unfold f_X6_check
  refine zw_up (by unfold W_X6_check; omega) wr.rf (fun σ47 hσ47 => ?_)
  refine zw_call (w_X6_within a1 1 30 σ47) (fun p k h => False.elim h) hσ47 (fun r53 σ54 hσ54 => ?_)
  refine zw_ite ?_ ?_
  · exact zw_some hσ54
  · refine zw_ite ?_ ?_
    · exact zw_some hσ54
    · refine zw_call (w_X0_takeOver 165 177 σ54) (fun p k h => by unfold W_X0_takeOver at h; unfold W_X6_check; omega) hσ54 (fun r64 σ65 hσ65 => ?_)
      refine zw_let (fun y71 => ?_)
      exact wL_X6_check_64 σ0 a1 zfu (σ0 0 11) y71 0 σ65  hσ65
theorem w_X6_cloth (a1 : Int32) (σ0 : zg_S) : zw (W_X6_cloth) σ0 (f_X6_cloth a1 σ0) := by
  unfold f_X6_cloth
  refine zw_ite ?_ ?_
  · exact zw_some wr.rf
  · refine zw_ite ?_ ?_
    · exact zw_some wr.rf
    · refine zw_ite ?_ ?_
      · exact zw_some wr.rf
      · refine zw_ite ?_ ?_
        · exact zw_some wr.rf
        · refine zw_ite ?_ ?_
          · refine zw_call (w_X0_heat 153 σ0) (fun p k h => False.elim h) wr.rf (fun r15 σ16 hσ16 => ?_)
            exact zw_some hσ16
          · refine zw_ite ?_ ?_
            · refine zw_call (w_X0_firstShaded 153 σ0) (fun p k h => False.elim h) wr.rf (fun r25 σ26 hσ26 => ?_)
              exact zw_some hσ26
            · refine zw_ite ?_ ?_
              · refine zw_call (w_X0_shadedSet 153 σ0) (fun p k h => False.elim h) wr.rf (fun r35 σ36 hσ36 => ?_)
                exact zw_some hσ36
              · exact zw_some wr.rf
theorem w_X6_isSheet (a0 : Int32) (σ0 : zg_S) : zw (W_X6_isSheet) σ0 (f_X6_isSheet a0 σ0) := by
  unfold f_X6_isSheet
  refine zw_call (w_X6_within a0 0 3 σ0) (fun p k h => False.elim h) wr.rf (fun r1 σ2 hσ2 => ?_)
  refine zw_ite ?_ zw_none
  exact zw_some hσ2
theorem w_X6_copy (a1 : Int32) (a2 : Int32) (a3 : Int32) (a4 : Int32) (a5 : Int32) (σ0 : zg_S) : zw (W_X6_copy a3) σ0 (f_X6_copy a1 a2 a3 a4 a5 σ0) := by
  unfold f_X6_copy
  refine zw_call (w_X6_isSheet a1 σ0) (fun p k h => False.elim h) wr.rf (fun r1 σ2 hσ2 => ?_)
  refine zw_ite ?_ ?_
  · exact zw_some hσ2
  · refine zw_call (w_X6_isSheet a3 σ2) (fun p k h => False.elim h) hσ2 (fun r11 σ12 hσ12 => ?_)
    refine zw_ite ?_ ?_
    · exact zw_some hσ12
    · refine zw_in (fun z1 => ?_)
      refine zw_in (fun z2 => ?_)
      refine zw_call (w_X2_isMissing (53 + 2 * (Int32.toNatClampNeg a1)) σ12) (fun p k h => False.elim h) hσ12 (fun r30 σ31 hσ31 => ?_)
      refine zw_ite ?_ ?_
      · refine zw_call (w_X2_isMissing (53 + 2 * (Int32.toNatClampNeg a3)) σ31) (fun p k h => False.elim h) hσ31 (fun r40 σ41 hσ41 => ?_)
        refine zw_ite ?_ ?_
        · refine zw_ite ?_ ?_
          · refine zw_call (w_X2_hasPlaces (53 + 2 * (Int32.toNatClampNeg a1)) a2 a5 σ41) (fun p k h => False.elim h) hσ41 (fun r51 σ52 hσ52 => ?_)
            refine zw_ite ?_ ?_
            · exact zw_some hσ52
            · refine zw_call (w_X2_hasPlaces (53 + 2 * (Int32.toNatClampNeg a3)) a4 a5 σ52) (fun p k h => False.elim h) hσ52 (fun r61 σ62 hσ62 => ?_)
              refine zw_ite ?_ ?_
              · exact zw_some hσ62
              · refine zw_ite ?_ zw_none
                refine zw_row (fun j => by unfold W_X6_copy; omega) hσ62 (fun σ76 hσ76 => ?_)
                exact zw_some hσ76
          · exact zw_some hσ41
        · exact zw_some hσ41
      · exact zw_some hσ31
theorem w_X6_count (a1 : Int32) (σ0 : zg_S) : zw (W_X6_count) σ0 (f_X6_count a1 σ0) := by
  unfold f_X6_count
  refine zw_ite ?_ ?_
  · exact zw_some wr.rf
  · refine zw_ite ?_ ?_
    · exact zw_some wr.rf
    · refine zw_ite ?_ ?_
      · refine zw_call (w_X0_shadedSet 153 σ0) (fun p k h => False.elim h) wr.rf (fun r9 σ10 hσ10 => ?_)
        refine zw_call (w_J6_bitCount_0f7a4 r9 σ10) (fun p k h => False.elim h) hσ10 (fun r16 σ17 hσ17 => ?_)
        exact zw_some hσ17
      · refine zw_ite ?_ ?_
        · exact zw_some wr.rf
        · refine zw_ite ?_ ?_
          · exact zw_some wr.rf
          · refine zw_ite ?_ ?_
            · exact zw_some wr.rf
            · refine zw_ite ?_ ?_
              · exact zw_some wr.rf
              · exact zw_some wr.rf
theorem wB_X6_deal_30 (σ0 : zg_S) (a1 : Int32) (rec30_ : Int32 → Int32 → zg_S → Option (Int32 × zg_S)) (x2 : Int32) (x3 : Int32) (s : zg_S) (hrec30_ : ∀ (z0 : Int32) (z1 : Int32) (s : zg_S), wr (W_X6_deal) σ0 s → zw (W_X6_deal) σ0 (rec30_ z0 z1 s)) (hs : wr (W_X6_deal) σ0 s) : zw (W_X6_deal) σ0 (B_X6_deal_30 a1 rec30_ x2 x3 s) := by
  unfold B_X6_deal_30
  refine zw_ite ?_ ?_
  · exact zw_some hs
  · refine zw_call (w_X0_draw 153 s) (fun p k h => by unfold W_X0_draw at h; unfold W_X6_deal; omega) hs (fun r4 σ5 hσ5 => ?_)
    refine zw_call (w_X0_draw 153 σ5) (fun p k h => by unfold W_X0_draw at h; unfold W_X6_deal; omega) hσ5 (fun r13 σ14 hσ14 => ?_)
    refine zw_call (w_X0_draw 153 σ14) (fun p k h => by unfold W_X0_draw at h; unfold W_X6_deal; omega) hσ14 (fun r22 σ23 hσ23 => ?_)
    refine zw_call (w_X0_open 153 (r4 - r4 / 6 * 6) (r13 - r13 / 12 * 12) (r22 - r22 / 40 * 40) σ23) (fun p k h => by unfold W_X0_open at h; unfold W_X6_deal; omega) hσ23 (fun r31 σ32 hσ32 => ?_)
    exact hrec30_ x2 (x3 + 1) σ32 hσ32
theorem wL_X6_deal_30 (σ0 : zg_S) (a1 : Int32) (n : Nat) (x2 : Int32) (x3 : Int32) (s : zg_S) (hs : wr (W_X6_deal) σ0 s) : zw (W_X6_deal) σ0 (L_X6_deal_30 a1 n x2 x3 s) := by
  unfold L_X6_deal_30
  exact zwf_II (fun r hr x2 x3 t ht => wB_X6_deal_30 σ0 a1 r x2 x3 t hr ht) n x2 x3 s hs
theorem w_X6_deal (a1 : Int32) (σ0 : zg_S) : zw (W_X6_deal) σ0 (f_X6_deal a1 σ0) := by
  unfold f_X6_deal
  refine zw_call (w_X6_within a1 1 9 σ0) (fun p k h => False.elim h) wr.rf (fun r40 σ41 hσ41 => ?_)
  refine zw_ite ?_ ?_
  · exact zw_some hσ41
  · refine zw_let (fun y49 => ?_)
    exact wL_X6_deal_30 σ0 a1 zfu y49 0 σ41  hσ41
theorem w_X6_fee  (σ0 : zg_S) : zw (W_X6_fee) σ0 (f_X6_fee  σ0) := by
  unfold f_X6_fee
  refine zw_call (w_X6_within (σ0 155 1) 0 13 σ0) (fun p k h => False.elim h) wr.rf (fun r3 σ4 hσ4 => ?_)
  refine zw_ite ?_ ?_
  · exact zw_some hσ4
  · refine zw_in (fun z1 => ?_)
    refine zw_call (w_X5_workOut (11 + 3 * (Int32.toNatClampNeg (σ0 155 1))) (σ4 153 10) (σ4 153 12) 0 σ4) (fun p k h => by unfold W_X5_workOut at h; unfold W_X6_fee; omega) hσ4 (fun r15 σ16 hσ16 => ?_)
    exact zw_some hσ16
theorem wB_X6_feedBytes_3 (σ0 : zg_S) (a1 : Int32) (rec3_ : Int32 → zg_S → Option (Int32 × zg_S)) (x2 : Int32) (s : zg_S) (hrec3_ : ∀ (z0 : Int32) (s : zg_S), wr (W_X6_feedBytes) σ0 s → zw (W_X6_feedBytes) σ0 (rec3_ z0 s)) (hs : wr (W_X6_feedBytes) σ0 s) : zw (W_X6_feedBytes) σ0 (B_X6_feedBytes_3 a1 rec3_ x2 s) := by
  unfold B_X6_feedBytes_3
  refine zw_ite ?_ ?_
  · exact zw_some hs
  · refine zw_ite ?_ ?_
    · exact zw_some hs
    · refine zw_let (fun y7 => ?_)
      refine zw_in (fun z1 => ?_)
      refine zw_up (by unfold W_X6_feedBytes; omega) hs (fun σ13 hσ13 => ?_)
      refine zw_up (by unfold W_X6_feedBytes; omega) hσ13 (fun σ19 hσ19 => ?_)
      exact hrec3_ (x2 + (-8)) σ19 hσ19
theorem wL_X6_feedBytes_3 (σ0 : zg_S) (a1 : Int32) (n : Nat) (x2 : Int32) (s : zg_S) (hs : wr (W_X6_feedBytes) σ0 s) : zw (W_X6_feedBytes) σ0 (L_X6_feedBytes_3 a1 n x2 s) := by
  unfold L_X6_feedBytes_3
  exact zwf_I (fun r hr x2 t ht => wB_X6_feedBytes_3 σ0 a1 r x2 t hr ht) n x2 s hs
theorem w_X6_feedBytes (a1 : Int32) (σ0 : zg_S) : zw (W_X6_feedBytes) σ0 (f_X6_feedBytes a1 σ0) := by
  unfold f_X6_feedBytes
  exact wL_X6_feedBytes_3 σ0 a1 zfu 24 σ0  wr.rf
theorem w_X6_feed (a1 : Int32) (a2 : Int32) (a3 : Int32) (σ0 : zg_S) : zw (W_X6_feed) σ0 (f_X6_feed a1 a2 a3 σ0) := by
  unfold f_X6_feed
  refine zw_ite ?_ ?_
  · refine zw_call (w_X6_feedBytes a1 σ0) (fun p k h => by unfold W_X6_feedBytes at h; unfold W_X6_feed; omega) wr.rf (fun r3 σ4 hσ4 => ?_)
    refine zw_call (w_X6_feedBytes a2 σ4) (fun p k h => by unfold W_X6_feedBytes at h; unfold W_X6_feed; omega) hσ4 (fun r10 σ11 hσ11 => ?_)
    refine zw_call (w_X6_feedBytes a3 σ11) (fun p k h => by unfold W_X6_feedBytes at h; unfold W_X6_feed; omega) hσ11 (fun r17 σ18 hσ18 => ?_)
    exact zw_some hσ18
  · exact zw_some wr.rf
theorem w_X6_fine (a1 : Int32) (σ0 : zg_S) : zw (W_X6_fine) σ0 (f_X6_fine a1 σ0) := by
  unfold f_X6_fine
  refine zw_call (w_X6_isStall a1 σ0) (fun p k h => False.elim h) wr.rf (fun r1 σ2 hσ2 => ?_)
  refine zw_ite ?_ ?_
  · exact zw_some hσ2
  · refine zw_in (fun z1 => ?_)
    refine zw_call (w_X6_within (σ2 155 2) 0 13 σ2) (fun p k h => False.elim h) hσ2 (fun r17 σ18 hσ18 => ?_)
    refine zw_ite ?_ ?_
    · exact zw_some hσ18
    · refine zw_in (fun z2 => ?_)
      refine zw_call (w_X0_shades 153 (σ18 (154 + 2 + (Int32.toNatClampNeg a1)) 1) σ18) (fun p k h => False.elim h) hσ18 (fun r29 σ30 hσ30 => ?_)
      refine zw_ite ?_ ?_
      · refine zw_call (w_X5_workOut (11 + 3 * (Int32.toNatClampNeg (σ2 155 2))) (σ18 (154 + 2 + (Int32.toNatClampNeg a1)) 2) 0 0 σ30) (fun p k h => by unfold W_X5_workOut at h; unfold W_X6_fine; omega) hσ30 (fun r38 σ39 hσ39 => ?_)
        exact zw_some hσ39
      · refine zw_call (w_X5_workOut (11 + 3 * (Int32.toNatClampNeg (σ2 155 2))) (σ18 (154 + 2 + (Int32.toNatClampNeg a1)) 2) 1 0 σ30) (fun p k h => by unfold W_X5_workOut at h; unfold W_X6_fine; omega) hσ30 (fun r46 σ47 hσ47 => ?_)
        exact zw_some hσ47
theorem w_X6_goods (a1 : Int32) (a2 : Int32) (σ0 : zg_S) : zw (W_X6_goods) σ0 (f_X6_goods a1 a2 σ0) := by
  unfold f_X6_goods
  refine zw_call (w_X6_isStall a1 σ0) (fun p k h => False.elim h) wr.rf (fun r1 σ2 hσ2 => ?_)
  refine zw_ite ?_ ?_
  · exact zw_some hσ2
  · refine zw_call (w_X6_within a2 0 100 σ2) (fun p k h => False.elim h) hσ2 (fun r11 σ12 hσ12 => ?_)
    refine zw_ite ?_ ?_
    · exact zw_some hσ12
    · refine zw_call (w_X0_takeOver 165 153 σ12) (fun p k h => by unfold W_X0_takeOver at h; unfold W_X6_goods; omega) hσ12 (fun r20 σ21 hσ21 => ?_)
      refine zw_call (w_X6_thinkOn a2 σ21) (fun p k h => by unfold W_X6_thinkOn at h; unfold W_X6_goods; omega) hσ21 (fun r27 σ28 hσ28 => ?_)
      refine zw_in (fun z1 => ?_)
      exact zw_some hσ28
theorem wB_X6_hours_40 (σ0 : zg_S) (a1 : Int32) (rec40_ : Int32 → Int32 → Int32 → zg_S → Option (Int32 × zg_S)) (x2 : Int32) (x3 : Int32) (x4 : Int32) (s : zg_S) (hrec40_ : ∀ (z0 : Int32) (z1 : Int32) (z2 : Int32) (s : zg_S), wr (W_X6_hours) σ0 s → zw (W_X6_hours) σ0 (rec40_ z0 z1 z2 s)) (hs : wr (W_X6_hours) σ0 s) : zw (W_X6_hours) σ0 (B_X6_hours_40 a1 rec40_ x2 x3 x4 s) := by
  unfold B_X6_hours_40
  refine zw_ite ?_ ?_
  · exact zw_some hs
  · refine zw_call (w_X0_hauling 153 s) (fun p k h => by unfold W_X0_hauling at h; unfold W_X6_hours; omega) hs (fun r4 σ5 hσ5 => ?_)
    refine zw_call (w_X0_passHour 153 r4 σ5) (fun p k h => by unfold W_X0_passHour at h; unfold W_X6_hours; omega) hσ5 (fun r11 σ12 hσ12 => ?_)
    exact hrec40_ x2 x3 (x4 + 1) σ12 hσ12
theorem wL_X6_hours_40 (σ0 : zg_S) (a1 : Int32) (n : Nat) (x2 : Int32) (x3 : Int32) (x4 : Int32) (s : zg_S) (hs : wr (W_X6_hours) σ0 s) : zw (W_X6_hours) σ0 (L_X6_hours_40 a1 n x2 x3 x4 s) := by
  unfold L_X6_hours_40
  exact zwf_III (fun r hr x2 x3 x4 t ht => wB_X6_hours_40 σ0 a1 r x2 x3 x4 t hr ht) n x2 x3 x4 s hs
theorem w_X6_hours (a1 : Int32) (σ0 : zg_S) : zw (W_X6_hours) σ0 (f_X6_hours a1 σ0) := by
  unfold f_X6_hours
  refine zw_call (w_X6_within a1 1 100 σ0) (fun p k h => False.elim h) wr.rf (fun r20 σ21 hσ21 => ?_)
  refine zw_ite ?_ ?_
  · exact zw_some hσ21
  · refine zw_let (fun y31 => ?_)
    exact wL_X6_hours_40 σ0 a1 zfu (σ21 153 11) y31 0 σ21  hσ21
theorem w_X6_item (a1 : Int32) (a2 : Int32) (σ0 : zg_S) : zw (W_X6_item) σ0 (f_X6_item a1 a2 σ0) := by
  unfold f_X6_item
  refine zw_call (w_X6_isSlot a1 σ0) (fun p k h => False.elim h) wr.rf (fun r1 σ2 hσ2 => ?_)
  refine zw_ite ?_ ?_
  · exact zw_some hσ2
  · refine zw_in (fun z1 => ?_)
    refine zw_call (w_X3_refuses (61 + 4 * (Int32.toNatClampNeg a1)) 2 σ2) (fun p k h => False.elim h) hσ2 (fun r13 σ14 hσ14 => ?_)
    refine zw_ite ?_ ?_
    · refine zw_call (w_X2_hasPlace ((61 + 4 * (Int32.toNatClampNeg a1)) + 2) a2 σ14) (fun p k h => False.elim h) hσ14 (fun r26 σ27 hσ27 => ?_)
      refine zw_ite ?_ ?_
      · exact zw_some hσ27
      · refine zw_call (w_X2_hasNumber ((61 + 4 * (Int32.toNatClampNeg a1)) + 2) a2 σ27) (fun p k h => False.elim h) hσ27 (fun r35 σ36 hσ36 => ?_)
        refine zw_ite ?_ ?_
        · exact zw_some hσ36
        · refine zw_in (fun z2 => ?_)
          exact zw_some hσ36
    · exact zw_some hσ14
theorem w_X6_keep  (σ0 : zg_S) : zw (W_X6_keep) σ0 (f_X6_keep  σ0) := by
  unfold f_X6_keep
  refine zw_call (w_X0_takeOver 177 153 σ0) (fun p k h => by unfold W_X0_takeOver at h; unfold W_X6_keep; omega) wr.rf (fun r1 σ2 hσ2 => ?_)
  refine zw_up (by unfold W_X6_keep; omega) hσ2 (fun σ8 hσ8 => ?_)
  exact zw_some hσ8
theorem w_X6_lay (a1 : Int32) (a2 : Int32) (a3 : Int32) (σ0 : zg_S) : zw (W_X6_lay a1) σ0 (f_X6_lay a1 a2 a3 σ0) := by
  unfold f_X6_lay
  refine zw_call (w_X6_isSlot a1 σ0) (fun p k h => False.elim h) wr.rf (fun r7 σ8 hσ8 => ?_)
  refine zw_ite ?_ ?_
  · exact zw_some hσ8
  · refine zw_call (w_X6_within a2 0 3 σ8) (fun p k h => False.elim h) hσ8 (fun r17 σ18 hσ18 => ?_)
    refine zw_ite ?_ ?_
    · exact zw_some hσ18
    · refine zw_in (fun z1 => ?_)
      refine zw_let (fun y31 => ?_)
      refine zw_ite ?_ ?_
      · refine zw_call (w_X6_isStall a3 σ18) (fun p k h => False.elim h) hσ18 (fun r81 σ82 hσ82 => ?_)
        refine zw_ite ?_ ?_
        · exact zw_some hσ82
        · refine zw_in (fun z2 => ?_)
          refine zw_call (w_X4_takeOver ((61 + 4 * (Int32.toNatClampNeg a1)) + 1) (154 + 2 + (Int32.toNatClampNeg a3)) σ82) (fun p k h => by unfold W_X4_takeOver at h; unfold W_X6_lay; omega) hσ82 (fun r93 σ94 hσ94 => ?_)
          unfold B_X6_lay_128
          refine zw_up (by unfold W_X6_lay; omega) hσ94 (fun σ1 hσ1 => ?_)
          exact zw_some hσ1
      · refine zw_ite ?_ ?_
        · refine zw_call (w_X6_isSheet a3 σ18) (fun p k h => False.elim h) hσ18 (fun r50 σ51 hσ51 => ?_)
          refine zw_ite ?_ ?_
          · exact zw_some hσ51
          · refine zw_in (fun z3 => ?_)
            refine zw_call (w_X2_isMissing (53 + 2 * (Int32.toNatClampNeg a3)) σ51) (fun p k h => False.elim h) hσ51 (fun r62 σ63 hσ63 => ?_)
            refine zw_ite ?_ ?_
            · refine zw_call (w_X2_takeOver ((61 + 4 * (Int32.toNatClampNeg a1)) + 2) (53 + 2 * (Int32.toNatClampNeg a3)) σ63) (fun p k h => by unfold W_X2_takeOver at h; unfold W_X6_lay; omega) hσ63 (fun r71 σ72 hσ72 => ?_)
              unfold B_X6_lay_128
              refine zw_up (by unfold W_X6_lay; omega) hσ72 (fun σ1 hσ1 => ?_)
              exact zw_some hσ1
            · exact zw_some hσ63
        · refine zw_ite ?_ ?_
          · refine zw_up (by unfold W_X6_lay; omega) hσ18 (fun σ43 hσ43 => ?_)
            unfold B_X6_lay_128
            refine zw_up (by unfold W_X6_lay; omega) hσ43 (fun σ1 hσ1 => ?_)
            exact zw_some hσ1
          · unfold B_X6_lay_128
            refine zw_up (by unfold W_X6_lay; omega) hσ18 (fun σ1 hσ1 => ?_)
            exact zw_some hσ1
theorem w_X6_mark (a1 : Int32) (a2 : Int32) (a3 : Int32) (σ0 : zg_S) : zw (W_X6_mark a1) σ0 (f_X6_mark a1 a2 a3 σ0) := by
  unfold f_X6_mark
  refine zw_call (w_X6_isSheet a1 σ0) (fun p k h => False.elim h) wr.rf (fun r10 σ11 hσ11 => ?_)
  refine zw_ite ?_ ?_
  · exact zw_some hσ11
  · refine zw_in (fun z1 => ?_)
    refine zw_call (w_X2_isMissing (53 + 2 * (Int32.toNatClampNeg a1)) σ11) (fun p k h => False.elim h) hσ11 (fun r24 σ25 hσ25 => ?_)
    refine zw_ite ?_ ?_
    · refine zw_call (w_X2_hasPlace (53 + 2 * (Int32.toNatClampNeg a1)) a2 σ25) (fun p k h => False.elim h) hσ25 (fun r33 σ34 hσ34 => ?_)
      refine zw_ite ?_ ?_
      · exact zw_some hσ34
      · refine zw_ite ?_ ?_
        · refine zw_ite ?_ ?_
          · exact zw_some hσ34
          · refine zw_in (fun z2 => ?_)
            refine zw_up (by unfold W_X6_mark; omega) hσ34 (fun σ63 hσ63 => ?_)
            exact zw_some hσ63
        · refine zw_ite ?_ ?_
          · unfold B_X6_mark_92
            refine zw_in (fun z3 => ?_)
            refine zw_up (by unfold W_X6_mark; omega) hσ34 (fun σ4 hσ4 => ?_)
            exact zw_some hσ4
          · refine zw_call (w_X6_within a3 (-99999) 99999 σ34) (fun p k h => False.elim h) hσ34 (fun r47 σ48 hσ48 => ?_)
            refine zw_ite ?_ ?_
            · exact zw_some hσ48
            · unfold B_X6_mark_92
              refine zw_in (fun z4 => ?_)
              refine zw_up (by unfold W_X6_mark; omega) hσ48 (fun σ4 hσ4 => ?_)
              exact zw_some hσ4
    · exact zw_some hσ25
theorem wB_X6_pour_32 (σ0 : zg_S) (a1 : Int32) (rec32_ : Nat → Int32 → Int32 → zg_S → Option (Int32 × zg_S)) (q2v : Nat) (x3 : Int32) (x4 : Int32) (s : zg_S) (hrec32_ : ∀ (z0 : Nat) (z1 : Int32) (z2 : Int32) (s : zg_S), wr (W_X6_pour) σ0 s → zw (W_X6_pour) σ0 (rec32_ z0 z1 z2 s)) (hs : wr (W_X6_pour) σ0 s) : zw (W_X6_pour) σ0 (B_X6_pour_32 a1 rec32_ q2v x3 x4 s) := by
  unfold B_X6_pour_32
  refine zw_ite ?_ ?_
  · exact zw_some hs
  · refine zw_call (w_X2_hasNumber q2v x4 s) (fun p k h => False.elim h) hs (fun r17 σ18 hσ18 => ?_)
    refine zw_ite ?_ ?_
    · unfold B_X6_pour_110
      exact hrec32_ q2v x3 (x4 + 1) σ18 hσ18
    · refine zw_in (fun z1 => ?_)
      refine zw_call (w_X6_held (σ18 (q2v + 1) (Int32.toNatClampNeg x4)) 0 999 σ18) (fun p k h => False.elim h) hσ18 (fun r30 σ31 hσ31 => ?_)
      refine zw_in (fun z2 => ?_)
      refine zw_ite ?_ ?_
      · unfold B_X6_pour_93
        refine zw_in (fun z3 => ?_)
        refine zw_up (by unfold W_X6_pour; omega) hσ31 (fun σ8 hσ8 => ?_)
        unfold B_X6_pour_110
        exact hrec32_ q2v (x3 + 0) (x4 + 1) σ8 hσ8
      · unfold B_X6_pour_93
        refine zw_in (fun z4 => ?_)
        refine zw_up (by unfold W_X6_pour; omega) hσ31 (fun σ8 hσ8 => ?_)
        unfold B_X6_pour_110
        exact hrec32_ q2v (x3 + 1) (x4 + 1) σ8 hσ8
theorem wL_X6_pour_32 (σ0 : zg_S) (a1 : Int32) (n : Nat) (q2v : Nat) (x3 : Int32) (x4 : Int32) (s : zg_S) (hs : wr (W_X6_pour) σ0 s) : zw (W_X6_pour) σ0 (L_X6_pour_32 a1 n q2v x3 x4 s) := by
  unfold L_X6_pour_32
  exact zwf_NII (fun r hr q2v x3 x4 t ht => wB_X6_pour_32 σ0 a1 r q2v x3 x4 t hr ht) n q2v x3 x4 s hs
theorem w_X6_pour (a1 : Int32) (σ0 : zg_S) : zw (W_X6_pour) σ0 (f_X6_pour a1 σ0) := by
  unfold f_X6_pour
  refine zw_call (w_X6_isSheet a1 σ0) (fun p k h => False.elim h) wr.rf (fun r45 σ46 hσ46 => ?_)
  refine zw_ite ?_ ?_
  · exact zw_some hσ46
  · refine zw_in (fun z1 => ?_)
    refine zw_call (w_X2_isMissing (53 + 2 * (Int32.toNatClampNeg a1)) σ46) (fun p k h => False.elim h) hσ46 (fun r59 σ60 hσ60 => ?_)
    refine zw_ite ?_ ?_
    · exact wL_X6_pour_32 σ0 a1 zfu (53 + 2 * (Int32.toNatClampNeg a1)) 0 0 σ60  hσ60
    · exact zw_some hσ60
theorem wB_X6_reads_29 (σ0 : zg_S) (a1 : Int32) (rec29_ : Nat → Int32 → zg_S → Option (Int32 × zg_S)) (q2v : Nat) (x3 : Int32) (s : zg_S) (hrec29_ : ∀ (z0 : Nat) (z1 : Int32) (s : zg_S), wr (W_X6_reads) σ0 s → zw (W_X6_reads) σ0 (rec29_ z0 z1 s)) (hs : wr (W_X6_reads) σ0 s) : zw (W_X6_reads) σ0 (B_X6_reads_29 a1 rec29_ q2v x3 s) := by
  unfold B_X6_reads_29
  refine zw_ite ?_ ?_
  · exact zw_some hs
  · refine zw_call (w_X2_hasNumber q2v x3 s) (fun p k h => False.elim h) hs (fun r6 σ7 hσ7 => ?_)
    refine zw_ite ?_ ?_
    · unfold B_X6_reads_80
      exact hrec29_ q2v (x3 + 1) σ7 hσ7
    · refine zw_call (w_X6_isStall x3 σ7) (fun p k h => False.elim h) hσ7 (fun r16 σ17 hσ17 => ?_)
      refine zw_ite ?_ ?_
      · exact zw_some hσ17
      · refine zw_in (fun z1 => ?_)
        refine zw_in (fun z2 => ?_)
        refine zw_call (w_X0_lossOf 153 (154 + 2 + (Int32.toNatClampNeg x3)) σ17) (fun p k h => by unfold W_X0_lossOf at h; unfold W_X6_reads; omega) hσ17 (fun r32 σ33 hσ33 => ?_)
        refine zw_ite ?_ ?_
        · unfold B_X6_reads_80
          exact hrec29_ q2v (x3 + 1) σ33 hσ33
        · exact zw_some hσ33
theorem wL_X6_reads_29 (σ0 : zg_S) (a1 : Int32) (n : Nat) (q2v : Nat) (x3 : Int32) (s : zg_S) (hs : wr (W_X6_reads) σ0 s) : zw (W_X6_reads) σ0 (L_X6_reads_29 a1 n q2v x3 s) := by
  unfold L_X6_reads_29
  exact zwf_NI (fun r hr q2v x3 t ht => wB_X6_reads_29 σ0 a1 r q2v x3 t hr ht) n q2v x3 s hs
theorem w_X6_reads (a1 : Int32) (σ0 : zg_S) : zw (W_X6_reads) σ0 (f_X6_reads a1 σ0) := by
  unfold f_X6_reads
  refine zw_call (w_X6_isSheet a1 σ0) (fun p k h => False.elim h) wr.rf (fun r42 σ43 hσ43 => ?_)
  refine zw_ite ?_ ?_
  · exact zw_some hσ43
  · refine zw_in (fun z1 => ?_)
    refine zw_call (w_X2_isMissing (53 + 2 * (Int32.toNatClampNeg a1)) σ43) (fun p k h => False.elim h) hσ43 (fun r56 σ57 hσ57 => ?_)
    refine zw_ite ?_ ?_
    · exact wL_X6_reads_29 σ0 a1 zfu (53 + 2 * (Int32.toNatClampNeg a1)) 0 σ57  hσ57
    · exact zw_some hσ57
theorem w_X6_rest (a1 : Int32) (a2 : Int32) (σ0 : zg_S) : zw (W_X6_rest) σ0 (f_X6_rest a1 a2 σ0) := by
  unfold f_X6_rest
  refine zw_call (w_X6_isSlot a1 σ0) (fun p k h => False.elim h) wr.rf (fun r1 σ2 hσ2 => ?_)
  refine zw_ite ?_ ?_
  · exact zw_some hσ2
  · refine zw_in (fun z1 => ?_)
    refine zw_call (w_X3_refuses (61 + 4 * (Int32.toNatClampNeg a1)) 3 σ2) (fun p k h => False.elim h) hσ2 (fun r13 σ14 hσ14 => ?_)
    refine zw_ite ?_ ?_
    · refine zw_ite ?_ ?_
      · exact zw_some hσ14
      · refine zw_ite zw_none ?_
        exact zw_some hσ14
    · exact zw_some hσ14
theorem w_X6_ruleFirst (a1 : Int32) (σ0 : zg_S) : zw (W_X6_ruleFirst) σ0 (f_X6_ruleFirst a1 σ0) := by
  unfold f_X6_ruleFirst
  refine zw_call (w_X0_lastFirst 153 σ0) (fun p k h => False.elim h) wr.rf (fun r1 σ2 hσ2 => ?_)
  refine zw_call (w_X6_within a1 0 r1 σ2) (fun p k h => False.elim h) hσ2 (fun r8 σ9 hσ9 => ?_)
  refine zw_ite ?_ ?_
  · exact zw_some hσ9
  · refine zw_up (by unfold W_X6_ruleFirst; omega) hσ9 (fun σ19 hσ19 => ?_)
    exact zw_some hσ19
theorem w_X6_ruleWidth (a1 : Int32) (σ0 : zg_S) : zw (W_X6_ruleWidth) σ0 (f_X6_ruleWidth a1 σ0) := by
  unfold f_X6_ruleWidth
  refine zw_call (w_X6_within a1 1 6 σ0) (fun p k h => False.elim h) wr.rf (fun r1 σ2 hσ2 => ?_)
  refine zw_ite ?_ ?_
  · exact zw_some hσ2
  · refine zw_call (w_X0_widen 153 a1 σ2) (fun p k h => by unfold W_X0_widen at h; unfold W_X6_ruleWidth; omega) hσ2 (fun r12 σ13 hσ13 => ?_)
    exact zw_some hσ13
theorem w_X6_ruleGust (a1 : Int32) (σ0 : zg_S) : zw (W_X6_ruleGust) σ0 (f_X6_ruleGust a1 σ0) := by
  unfold f_X6_ruleGust
  refine zw_call (w_X6_within a1 0 100 σ0) (fun p k h => False.elim h) wr.rf (fun r1 σ2 hσ2 => ?_)
  refine zw_ite ?_ ?_
  · exact zw_some hσ2
  · refine zw_up (by unfold W_X6_ruleGust; omega) hσ2 (fun σ12 hσ12 => ?_)
    exact zw_some hσ12
theorem w_X6_ruleMode (a1 : Int32) (σ0 : zg_S) : zw (W_X6_ruleMode) σ0 (f_X6_ruleMode a1 σ0) := by
  unfold f_X6_ruleMode
  refine zw_call (w_X6_within a1 0 2 σ0) (fun p k h => False.elim h) wr.rf (fun r1 σ2 hσ2 => ?_)
  refine zw_ite ?_ ?_
  · exact zw_some hσ2
  · refine zw_up (by unfold W_X6_ruleMode; omega) hσ2 (fun σ12 hσ12 => ?_)
    exact zw_some hσ12
theorem w_X6_rule (a1 : Int32) (a2 : Int32) (σ0 : zg_S) : zw (W_X6_rule) σ0 (f_X6_rule a1 a2 σ0) := by
  unfold f_X6_rule
  refine zw_ite ?_ ?_
  · refine zw_call (w_X6_ruleFirst a2 σ0) (fun p k h => by unfold W_X6_ruleFirst at h; unfold W_X6_rule; omega) wr.rf (fun r3 σ4 hσ4 => ?_)
    exact zw_some hσ4
  · refine zw_ite ?_ ?_
    · refine zw_call (w_X6_ruleWidth a2 σ0) (fun p k h => by unfold W_X6_ruleWidth at h; unfold W_X6_rule; omega) wr.rf (fun r13 σ14 hσ14 => ?_)
      exact zw_some hσ14
    · refine zw_ite ?_ ?_
      · refine zw_call (w_X6_ruleGust a2 σ0) (fun p k h => by unfold W_X6_ruleGust at h; unfold W_X6_rule; omega) wr.rf (fun r23 σ24 hσ24 => ?_)
        exact zw_some hσ24
      · refine zw_ite ?_ ?_
        · refine zw_call (w_X6_ruleMode a2 σ0) (fun p k h => by unfold W_X6_ruleMode at h; unfold W_X6_rule; omega) wr.rf (fun r33 σ34 hσ34 => ?_)
          exact zw_some hσ34
        · exact zw_some wr.rf
theorem w_X6_seed (a1 : Int32) (σ0 : zg_S) : zw (W_X6_seed) σ0 (f_X6_seed a1 σ0) := by
  unfold f_X6_seed
  refine zw_up (by unfold W_X6_seed; omega) wr.rf (fun σ3 hσ3 => ?_)
  exact zw_some hσ3
theorem w_X6_setPlace (q0 : Nat) (a1 : Int32) (σ0 : zg_S) : zw (W_X6_setPlace q0) σ0 (f_X6_setPlace q0 a1 σ0) := by
  unfold f_X6_setPlace
  refine zw_call (w_X6_within a1 0 11 σ0) (fun p k h => False.elim h) wr.rf (fun r1 σ2 hσ2 => ?_)
  refine zw_ite ?_ ?_
  · exact zw_some hσ2
  · refine zw_up (by unfold W_X6_setPlace; omega) hσ2 (fun σ12 hσ12 => ?_)
    exact zw_some hσ12
theorem w_X6_setGoods (q0 : Nat) (a1 : Int32) (σ0 : zg_S) : zw (W_X6_setGoods q0) σ0 (f_X6_setGoods q0 a1 σ0) := by
  unfold f_X6_setGoods
  refine zw_call (w_X6_within a1 0 999 σ0) (fun p k h => False.elim h) wr.rf (fun r1 σ2 hσ2 => ?_)
  refine zw_ite ?_ ?_
  · exact zw_some hσ2
  · refine zw_up (by unfold W_X6_setGoods; omega) hσ2 (fun σ12 hσ12 => ?_)
    exact zw_some hσ12
theorem w_X6_setPay (q0 : Nat) (a1 : Int32) (σ0 : zg_S) : zw (W_X6_setPay q0) σ0 (f_X6_setPay q0 a1 σ0) := by
  unfold f_X6_setPay
  refine zw_call (w_X6_within a1 0 99 σ0) (fun p k h => False.elim h) wr.rf (fun r1 σ2 hσ2 => ?_)
  refine zw_ite ?_ ?_
  · exact zw_some hσ2
  · refine zw_up (by unfold W_X6_setPay; omega) hσ2 (fun σ12 hσ12 => ?_)
    exact zw_some hσ12
theorem w_X6_set (a1 : Int32) (a2 : Int32) (a3 : Int32) (σ0 : zg_S) : zw (W_X6_set a1) σ0 (f_X6_set a1 a2 a3 σ0) := by
  unfold f_X6_set
  refine zw_call (w_X6_isStall a1 σ0) (fun p k h => False.elim h) wr.rf (fun r1 σ2 hσ2 => ?_)
  refine zw_ite ?_ ?_
  · exact zw_some hσ2
  · refine zw_ite ?_ ?_
    · refine zw_in (fun z1 => ?_)
      refine zw_call (w_X6_setPlace (154 + 2 + (Int32.toNatClampNeg a1)) a3 σ2) (fun p k h => by unfold W_X6_setPlace at h; unfold W_X6_set; omega) hσ2 (fun r15 σ16 hσ16 => ?_)
      exact zw_some hσ16
    · refine zw_ite ?_ ?_
      · refine zw_in (fun z2 => ?_)
        refine zw_call (w_X6_setGoods (154 + 2 + (Int32.toNatClampNeg a1)) a3 σ2) (fun p k h => by unfold W_X6_setGoods at h; unfold W_X6_set; omega) hσ2 (fun r28 σ29 hσ29 => ?_)
        exact zw_some hσ29
      · refine zw_ite ?_ ?_
        · refine zw_in (fun z3 => ?_)
          refine zw_call (w_X6_setPay (154 + 2 + (Int32.toNatClampNeg a1)) a3 σ2) (fun p k h => by unfold W_X6_setPay at h; unfold W_X6_set; omega) hσ2 (fun r41 σ42 hσ42 => ?_)
          exact zw_some hσ42
        · exact zw_some hσ2
theorem wB_X6_shaded_89 (σ0 : zg_S) (a1 : Int32) (a2 : Int32) (rec51_ : Int32 → Int32 → Int32 → zg_S → Option (Int32 × zg_S)) (x3 : Int32) (x4 : Int32) (x5 : Int32) (x6 : Int32) (s : zg_S) (hrec51_ : ∀ (z0 : Int32) (z1 : Int32) (z2 : Int32) (s : zg_S), wr (W_X6_shaded) σ0 s → zw (W_X6_shaded) σ0 (rec51_ z0 z1 z2 s)) (hs : wr (W_X6_shaded) σ0 s) : zw (W_X6_shaded) σ0 (B_X6_shaded_89 a1 a2 rec51_ x3 x4 x5 x6 s) := by
  unfold B_X6_shaded_89
  refine zw_call (w_X0_passHour 165 x6 s) (fun p k h => by unfold W_X0_passHour at h; unfold W_X6_shaded; omega) hs (fun r1 σ2 hσ2 => ?_)
  exact hrec51_ x3 x4 (x5 + 1) σ2 hσ2
theorem wB_X6_shaded_51 (σ0 : zg_S) (a1 : Int32) (a2 : Int32) (rec51_ : Int32 → Int32 → Int32 → zg_S → Option (Int32 × zg_S)) (x3 : Int32) (x4 : Int32) (x5 : Int32) (s : zg_S) (hrec51_ : ∀ (z0 : Int32) (z1 : Int32) (z2 : Int32) (s : zg_S), wr (W_X6_shaded) σ0 s → zw (W_X6_shaded) σ0 (rec51_ z0 z1 z2 s)) (hs : wr (W_X6_shaded) σ0 s) : zw (W_X6_shaded) σ0 (B_X6_shaded_51 a1 a2 rec51_ x3 x4 x5 s) := by
  unfold B_X6_shaded_51
  refine zw_ite ?_ ?_
  · exact zw_some hs
  · refine zw_call (w_X0_hauling 165 s) (fun p k h => by unfold W_X0_hauling at h; unfold W_X6_shaded; omega) hs (fun r13 σ14 hσ14 => ?_)
    refine zw_call (w_X0_hauledTo 165 r13 σ14) (fun p k h => False.elim h) hσ14 (fun r22 σ23 hσ23 => ?_)
    refine zw_call (w_X0_wouldShade 165 r22 x3 σ23) (fun p k h => False.elim h) hσ23 (fun r29 σ30 hσ30 => ?_)
    refine zw_ite ?_ ?_
    · exact wB_X6_shaded_89 σ0 a1 a2 rec51_ x3 x4 x5 r13 σ30 hrec51_ hσ30
    · exact wB_X6_shaded_89 σ0 a1 a2 rec51_ x3 (x4 + 1) x5 r13 σ30 hrec51_ hσ30
theorem wL_X6_shaded_51 (σ0 : zg_S) (a1 : Int32) (a2 : Int32) (n : Nat) (x3 : Int32) (x4 : Int32) (x5 : Int32) (s : zg_S) (hs : wr (W_X6_shaded) σ0 s) : zw (W_X6_shaded) σ0 (L_X6_shaded_51 a1 a2 n x3 x4 x5 s) := by
  unfold L_X6_shaded_51
  exact zwf_III (fun r hr x3 x4 x5 t ht => wB_X6_shaded_51 σ0 a1 a2 r x3 x4 x5 t hr ht) n x3 x4 x5 s hs
theorem w_X6_shaded (a1 : Int32) (a2 : Int32) (σ0 : zg_S) : zw (W_X6_shaded) σ0 (f_X6_shaded a1 a2 σ0) := by
  unfold f_X6_shaded
  refine zw_call (w_X6_isStall a1 σ0) (fun p k h => False.elim h) wr.rf (fun r41 σ42 hσ42 => ?_)
  refine zw_ite ?_ ?_
  · exact zw_some hσ42
  · refine zw_call (w_X6_within a2 1 60 σ42) (fun p k h => False.elim h) hσ42 (fun r51 σ52 hσ52 => ?_)
    refine zw_ite ?_ ?_
    · exact zw_some hσ52
    · refine zw_call (w_X0_takeOver 165 153 σ52) (fun p k h => by unfold W_X0_takeOver at h; unfold W_X6_shaded; omega) hσ52 (fun r60 σ61 hσ61 => ?_)
      refine zw_in (fun z1 => ?_)
      refine zw_let (fun y70 => ?_)
      exact wL_X6_shaded_51 σ0 a1 a2 zfu y70 0 0 σ61  hσ61
theorem w_X6_sheet (a1 : Int32) (a2 : Int32) (a3 : Int32) (σ0 : zg_S) : zw (W_X6_sheet a1) σ0 (f_X6_sheet a1 a2 a3 σ0) := by
  unfold f_X6_sheet
  refine zw_call (w_X6_isSheet a1 σ0) (fun p k h => False.elim h) wr.rf (fun r1 σ2 hσ2 => ?_)
  refine zw_ite ?_ ?_
  · exact zw_some hσ2
  · refine zw_call (w_X6_within a2 (-1) 1 σ2) (fun p k h => False.elim h) hσ2 (fun r11 σ12 hσ12 => ?_)
    refine zw_ite ?_ ?_
    · exact zw_some hσ12
    · refine zw_ite ?_ ?_
      · refine zw_in (fun z1 => ?_)
        refine zw_call (w_X2_become (53 + 2 * (Int32.toNatClampNeg a1)) (-1) 0 σ12) (fun p k h => by unfold W_X2_become at h; unfold W_X6_sheet; omega) hσ12 (fun r42 σ43 hσ43 => ?_)
        exact zw_some hσ43
      · refine zw_ite ?_ ?_
        · refine zw_ite ?_ ?_
          · refine zw_in (fun z2 => ?_)
            refine zw_call (w_X2_become (53 + 2 * (Int32.toNatClampNeg a1)) a2 a3 σ12) (fun p k h => by unfold W_X2_become at h; unfold W_X6_sheet; omega) hσ12 (fun r29 σ30 hσ30 => ?_)
            exact zw_some hσ30
          · exact zw_some hσ12
        · exact zw_some hσ12
theorem w_X6_stall (a1 : Int32) (a2 : Int32) (a3 : Int32) (σ0 : zg_S) : zw (W_X6_stall) σ0 (f_X6_stall a1 a2 a3 σ0) := by
  unfold f_X6_stall
  refine zw_call (w_X6_within a1 0 5 σ0) (fun p k h => False.elim h) wr.rf (fun r1 σ2 hσ2 => ?_)
  refine zw_ite ?_ ?_
  · exact zw_some hσ2
  · refine zw_call (w_X6_within a2 0 11 σ2) (fun p k h => False.elim h) hσ2 (fun r11 σ12 hσ12 => ?_)
    refine zw_ite ?_ ?_
    · exact zw_some hσ12
    · refine zw_call (w_X6_within a3 0 99 σ12) (fun p k h => False.elim h) hσ12 (fun r21 σ22 hσ22 => ?_)
      refine zw_ite ?_ ?_
      · exact zw_some hσ22
      · refine zw_ite ?_ ?_
        · refine zw_call (w_X0_open 153 a1 a2 a3 σ22) (fun p k h => by unfold W_X0_open at h; unfold W_X6_stall; omega) hσ22 (fun r32 σ33 hσ33 => ?_)
          exact zw_some hσ33
        · exact zw_some hσ22
theorem w_X6_tell (a1 : Int32) (σ0 : zg_S) : zw (W_X6_tell) σ0 (f_X6_tell a1 σ0) := by
  unfold f_X6_tell
  refine zw_ite ?_ ?_
  · refine zw_in (fun z1 => ?_)
    refine zw_up (by unfold W_X6_tell; omega) wr.rf (fun σ6 hσ6 => ?_)
    refine zw_up (by unfold W_X6_tell; omega) hσ6 (fun σ12 hσ12 => ?_)
    exact zw_some hσ12
  · exact zw_some wr.rf
theorem w_X6_text  (σ0 : zg_S) : zw (W_X6_text) σ0 (f_X6_text  σ0) := by
  unfold f_X6_text
  refine zw_call (w_X1_readText (σ0 0 10) σ0) (fun p k h => by unfold W_X1_readText at h; unfold W_X6_text; omega) wr.rf (fun r1 σ2 hσ2 => ?_)
  refine zw_up (by unfold W_X6_text; omega) hσ2 (fun σ10 hσ10 => ?_)
  refine zw_ite ?_ ?_
  · refine zw_ite ?_ ?_
    · refine zw_call (w_X0_enact 153 8 σ10) (fun p k h => by unfold W_X0_enact at h; unfold W_X6_text; omega) hσ10 (fun r20 σ21 hσ21 => ?_)
      exact zw_some hσ21
    · exact zw_some hσ10
  · exact zw_some hσ10
theorem w_X6_textTold (a1 : Int32) (a2 : Int32) (σ0 : zg_S) : zw (W_X6_textTold) σ0 (f_X6_textTold a1 a2 σ0) := by
  unfold f_X6_textTold
  refine zw_call (w_X6_within a1 0 ((σ0 153 4) - 1) σ0) (fun p k h => False.elim h) wr.rf (fun r1 σ2 hσ2 => ?_)
  refine zw_ite ?_ ?_
  · exact zw_some hσ2
  · refine zw_ite ?_ ?_
    · refine zw_in (fun z1 => ?_)
      exact zw_some hσ2
    · refine zw_ite ?_ ?_
      · refine zw_in (fun z2 => ?_)
        exact zw_some hσ2
      · exact zw_some hσ2
theorem w_X6_told (a1 : Int32) (a2 : Int32) (σ0 : zg_S) : zw (W_X6_told) σ0 (f_X6_told a1 a2 σ0) := by
  unfold f_X6_told
  refine zw_call (w_X6_isStall a1 σ0) (fun p k h => False.elim h) wr.rf (fun r1 σ2 hσ2 => ?_)
  refine zw_ite ?_ ?_
  · exact zw_some hσ2
  · refine zw_in (fun z1 => ?_)
    refine zw_ite ?_ ?_
    · exact zw_some hσ2
    · refine zw_ite ?_ ?_
      · exact zw_some hσ2
      · refine zw_ite ?_ ?_
        · exact zw_some hσ2
        · refine zw_ite ?_ ?_
          · exact zw_some hσ2
          · refine zw_ite ?_ ?_
            · refine zw_call (w_X0_lossOf 153 (154 + 2 + (Int32.toNatClampNeg a1)) σ2) (fun p k h => by unfold W_X0_lossOf at h; unfold W_X6_told; omega) hσ2 (fun r29 σ30 hσ30 => ?_)
              exact zw_some hσ30
            · refine zw_ite ?_ ?_
              · refine zw_call (w_X0_shades 153 (σ2 (154 + 2 + (Int32.toNatClampNeg a1)) 1) σ2) (fun p k h => False.elim h) hσ2 (fun r39 σ40 hσ40 => ?_)
                refine zw_ite ?_ ?_
                · exact zw_some hσ40
                · exact zw_some hσ40
              · refine zw_ite ?_ ?_
                · refine zw_call (w_X4_worth (154 + 2 + (Int32.toNatClampNeg a1)) σ2) (fun p k h => False.elim h) hσ2 (fun r52 σ53 hσ53 => ?_)
                  exact zw_some hσ53
                · exact zw_some hσ2
theorem w_X6_trim (a1 : Int32) (σ0 : zg_S) : zw (W_X6_trim) σ0 (f_X6_trim a1 σ0) := by
  unfold f_X6_trim
  refine zw_call (w_X6_within a1 0 (σ0 0 10) σ0) (fun p k h => False.elim h) wr.rf (fun r1 σ2 hσ2 => ?_)
  refine zw_ite ?_ ?_
  · exact zw_some hσ2
  · refine zw_up (by unfold W_X6_trim; omega) hσ2 (fun σ10 hσ10 => ?_)
    exact zw_some hσ10
theorem w_X6_turns (a1 : Int32) (a2 : Int32) (σ0 : zg_S) : zw (W_X6_turns a1) σ0 (f_X6_turns a1 a2 σ0) := by
  unfold f_X6_turns
  refine zw_call (w_X6_isStall a1 σ0) (fun p k h => False.elim h) wr.rf (fun r1 σ2 hσ2 => ?_)
  refine zw_ite ?_ ?_
  · exact zw_some hσ2
  · refine zw_call (w_X6_within a2 0 5 σ2) (fun p k h => False.elim h) hσ2 (fun r11 σ12 hσ12 => ?_)
    refine zw_ite ?_ ?_
    · exact zw_some hσ12
    · refine zw_in (fun z1 => ?_)
      refine zw_let (fun y25 => ?_)
      refine zw_up (by unfold W_X6_turns; omega) hσ12 (fun σ30 hσ30 => ?_)
      exact zw_some hσ30
theorem wB_X6_whose_115 (σ0 : zg_S) (a1 : Int32) (a2 : Int32) (a3 : Int32) (rec54_ : Int32 → Int32 → Int32 → zg_S → Option (Int32 × zg_S)) (x4 : Int32) (x5 : Int32) (x6 : Int32) (s : zg_S) (hrec54_ : ∀ (z0 : Int32) (z1 : Int32) (z2 : Int32) (s : zg_S), wr (W_X6_whose) σ0 s → zw (W_X6_whose) σ0 (rec54_ z0 z1 z2 s)) (hs : wr (W_X6_whose) σ0 s) : zw (W_X6_whose) σ0 (B_X6_whose_115 a1 a2 a3 rec54_ x4 x5 x6 s) := by
  unfold B_X6_whose_115
  exact hrec54_ x4 x5 (x6 + 1) s hs
theorem wB_X6_whose_54 (σ0 : zg_S) (a1 : Int32) (a2 : Int32) (a3 : Int32) (rec54_ : Int32 → Int32 → Int32 → zg_S → Option (Int32 × zg_S)) (x4 : Int32) (x5 : Int32) (x6 : Int32) (s : zg_S) (hrec54_ : ∀ (z0 : Int32) (z1 : Int32) (z2 : Int32) (s : zg_S), wr (W_X6_whose) σ0 s → zw (W_X6_whose) σ0 (rec54_ z0 z1 z2 s)) (hs : wr (W_X6_whose) σ0 s) : zw (W_X6_whose) σ0 (B_X6_whose_54 a1 a2 a3 rec54_ x4 x5 x6 s) := by
  unfold B_X6_whose_54
  refine zw_ite ?_ ?_
  · refine zw_ite ?_ ?_
    · exact zw_some hs
    · exact zw_some hs
  · refine zw_call (w_X0_takeOver 165 153 s) (fun p k h => by unfold W_X0_takeOver at h; unfold W_X6_whose; omega) hs (fun r9 σ10 hσ10 => ?_)
    refine zw_up (by unfold W_X6_whose; omega) hσ10 (fun σ16 hσ16 => ?_)
    refine zw_call (w_X6_thinkOn a2 σ16) (fun p k h => by unfold W_X6_thinkOn at h; unfold W_X6_whose; omega) hσ16 (fun r22 σ23 hσ23 => ?_)
    refine zw_in (fun z1 => ?_)
    refine zw_call (w_X0_differencesFrom 165 (53 + 2 * (Int32.toNatClampNeg a1)) σ23) (fun p k h => False.elim h) hσ23 (fun r32 σ33 hσ33 => ?_)
    refine zw_ite ?_ ?_
    · exact wB_X6_whose_115 σ0 a1 a2 a3 rec54_ x4 x5 x6 σ33 hrec54_ hσ33
    · exact wB_X6_whose_115 σ0 a1 a2 a3 rec54_ x6 r32 x6 σ33 hrec54_ hσ33
theorem wL_X6_whose_54 (σ0 : zg_S) (a1 : Int32) (a2 : Int32) (a3 : Int32) (n : Nat) (x4 : Int32) (x5 : Int32) (x6 : Int32) (s : zg_S) (hs : wr (W_X6_whose) σ0 s) : zw (W_X6_whose) σ0 (L_X6_whose_54 a1 a2 a3 n x4 x5 x6 s) := by
  unfold L_X6_whose_54
  exact zwf_III (fun r hr x4 x5 x6 t ht => wB_X6_whose_54 σ0 a1 a2 a3 r x4 x5 x6 t hr ht) n x4 x5 x6 s hs
theorem w_X6_whose (a1 : Int32) (a2 : Int32) (a3 : Int32) (σ0 : zg_S) : zw (W_X6_whose) σ0 (f_X6_whose a1 a2 a3 σ0) := by
  unfold f_X6_whose
  refine zw_call (w_X6_isSheet a1 σ0) (fun p k h => False.elim h) wr.rf (fun r48 σ49 hσ49 => ?_)
  refine zw_ite ?_ ?_
  · exact zw_some hσ49
  · refine zw_call (w_X6_within a2 0 60 σ49) (fun p k h => False.elim h) hσ49 (fun r58 σ59 hσ59 => ?_)
    refine zw_ite ?_ ?_
    · exact zw_some hσ59
    · refine zw_call (w_X6_within a3 0 1 σ59) (fun p k h => False.elim h) hσ59 (fun r68 σ69 hσ69 => ?_)
      refine zw_ite ?_ ?_
      · exact zw_some hσ69
      · refine zw_in (fun z1 => ?_)
        refine zw_call (w_X2_isMissing (53 + 2 * (Int32.toNatClampNeg a1)) σ69) (fun p k h => False.elim h) hσ69 (fun r80 σ81 hσ81 => ?_)
        refine zw_ite ?_ ?_
        · exact wL_X6_whose_54 σ0 a1 a2 a3 zfu 0 2147483647 0 σ81  hσ81
        · exact zw_some hσ81
theorem w_X6_why (a1 : Int32) (σ0 : zg_S) : zw (W_X6_why) σ0 (f_X6_why a1 σ0) := by
  unfold f_X6_why
  refine zw_call (w_X6_within a1 0 2 σ0) (fun p k h => False.elim h) wr.rf (fun r1 σ2 hσ2 => ?_)
  refine zw_ite ?_ ?_
  · exact zw_some hσ2
  · refine zw_in (fun z1 => ?_)
    exact zw_some hσ2
theorem wB_X6_wider_26 (σ0 : zg_S) (a1 : Int32) (a2 : Int32) (rec26_ : Int32 → zg_S → Option (Int32 × zg_S)) (x3 : Int32) (s : zg_S) (hrec26_ : ∀ (z0 : Int32) (s : zg_S), wr (W_X6_wider) σ0 s → zw (W_X6_wider) σ0 (rec26_ z0 s)) (hs : wr (W_X6_wider) σ0 s) : zw (W_X6_wider) σ0 (B_X6_wider_26 a1 a2 rec26_ x3 s) := by
  unfold B_X6_wider_26
  refine zw_ite ?_ ?_
  · exact zw_some hs
  · refine zw_call (w_X0_takeOver 165 153 s) (fun p k h => by unfold W_X0_takeOver at h; unfold W_X6_wider; omega) hs (fun r4 σ5 hσ5 => ?_)
    refine zw_call (w_X0_widen 165 x3 σ5) (fun p k h => by unfold W_X0_widen at h; unfold W_X6_wider; omega) hσ5 (fun r11 σ12 hσ12 => ?_)
    refine zw_call (w_X6_thinkOn a2 σ12) (fun p k h => by unfold W_X6_thinkOn at h; unfold W_X6_wider; omega) hσ12 (fun r18 σ19 hσ19 => ?_)
    refine zw_ite ?_ ?_
    · exact hrec26_ (x3 + 1) σ19 hσ19
    · exact zw_some hσ19
theorem wL_X6_wider_26 (σ0 : zg_S) (a1 : Int32) (a2 : Int32) (n : Nat) (x3 : Int32) (s : zg_S) (hs : wr (W_X6_wider) σ0 s) : zw (W_X6_wider) σ0 (L_X6_wider_26 a1 a2 n x3 s) := by
  unfold L_X6_wider_26
  exact zwf_I (fun r hr x3 t ht => wB_X6_wider_26 σ0 a1 a2 r x3 t hr ht) n x3 s hs
theorem w_X6_wider (a1 : Int32) (a2 : Int32) (σ0 : zg_S) : zw (W_X6_wider) σ0 (f_X6_wider a1 a2 σ0) := by
  unfold f_X6_wider
  refine zw_call (w_X6_within a1 0 9999 σ0) (fun p k h => False.elim h) wr.rf (fun r30 σ31 hσ31 => ?_)
  refine zw_ite ?_ ?_
  · exact zw_some hσ31
  · refine zw_call (w_X6_within a2 1 60 σ31) (fun p k h => False.elim h) hσ31 (fun r40 σ41 hσ41 => ?_)
    refine zw_ite ?_ ?_
    · exact zw_some hσ41
    · exact wL_X6_wider_26 σ0 a1 a2 zfu 1 σ41  hσ41
theorem wB_X6_without_109 (σ0 : zg_S) (a1 : Int32) (a2 : Int32) (rec43_ : Int32 → Int32 → Int32 → zg_S → Option (Int32 × zg_S)) (x3 : Int32) (x4 : Int32) (x5 : Int32) (s : zg_S) (hrec43_ : ∀ (z0 : Int32) (z1 : Int32) (z2 : Int32) (s : zg_S), wr (W_X6_without) σ0 s → zw (W_X6_without) σ0 (rec43_ z0 z1 z2 s)) (hs : wr (W_X6_without) σ0 s) : zw (W_X6_without) σ0 (B_X6_without_109 a1 a2 rec43_ x3 x4 x5 s) := by
  unfold B_X6_without_109
  exact hrec43_ x3 x4 (x5 + 1) s hs
theorem wB_X6_without_43 (σ0 : zg_S) (a1 : Int32) (a2 : Int32) (rec43_ : Int32 → Int32 → Int32 → zg_S → Option (Int32 × zg_S)) (x3 : Int32) (x4 : Int32) (x5 : Int32) (s : zg_S) (hrec43_ : ∀ (z0 : Int32) (z1 : Int32) (z2 : Int32) (s : zg_S), wr (W_X6_without) σ0 s → zw (W_X6_without) σ0 (rec43_ z0 z1 z2 s)) (hs : wr (W_X6_without) σ0 s) : zw (W_X6_without) σ0 (B_X6_without_43 a1 a2 rec43_ x3 x4 x5 s) := by
  unfold B_X6_without_43
  refine zw_ite ?_ ?_
  · refine zw_ite ?_ ?_
    · exact zw_some hs
    · exact zw_some hs
  · refine zw_call (w_X0_takeOver 165 153 s) (fun p k h => by unfold W_X0_takeOver at h; unfold W_X6_without; omega) hs (fun r9 σ10 hσ10 => ?_)
    refine zw_in (fun z1 => ?_)
    refine zw_up (by unfold W_X6_without; omega) hσ10 (fun σ19 hσ19 => ?_)
    refine zw_call (w_X6_thinkOn a1 σ19) (fun p k h => by unfold W_X6_thinkOn at h; unfold W_X6_without; omega) hσ19 (fun r25 σ26 hσ26 => ?_)
    refine zw_ite ?_ ?_
    · exact wB_X6_without_109 σ0 a1 a2 rec43_ x3 x4 x5 σ26 hrec43_ hσ26
    · exact wB_X6_without_109 σ0 a1 a2 rec43_ x5 (σ26 165 10) x5 σ26 hrec43_ hσ26
theorem wL_X6_without_43 (σ0 : zg_S) (a1 : Int32) (a2 : Int32) (n : Nat) (x3 : Int32) (x4 : Int32) (x5 : Int32) (s : zg_S) (hs : wr (W_X6_without) σ0 s) : zw (W_X6_without) σ0 (L_X6_without_43 a1 a2 n x3 x4 x5 s) := by
  unfold L_X6_without_43
  exact zwf_III (fun r hr x3 x4 x5 t ht => wB_X6_without_43 σ0 a1 a2 r x3 x4 x5 t hr ht) n x3 x4 x5 s hs
theorem w_X6_without (a1 : Int32) (a2 : Int32) (σ0 : zg_S) : zw (W_X6_without) σ0 (f_X6_without a1 a2 σ0) := by
  unfold f_X6_without
  refine zw_call (w_X6_within a1 1 60 σ0) (fun p k h => False.elim h) wr.rf (fun r39 σ40 hσ40 => ?_)
  refine zw_ite ?_ ?_
  · exact zw_some hσ40
  · refine zw_call (w_X6_within a2 0 1 σ40) (fun p k h => False.elim h) hσ40 (fun r49 σ50 hσ50 => ?_)
    refine zw_ite ?_ ?_
    · exact zw_some hσ50
    · refine zw_ite ?_ ?_
      · exact zw_some hσ50
      · exact wL_X6_without_43 σ0 a1 a2 zfu 0 (-1) 0 σ50  hσ50
theorem w_X7_isIn (a0 : Int64) (a2 : Int64) (a4 : Int64) (σ0 : zg_S) : zw (W_X7_isIn) σ0 (f_X7_isIn a0 a2 a4 σ0) := by
  unfold f_X7_isIn
  refine zw_ite ?_ ?_
  · exact zw_some wr.rf
  · refine zw_ite ?_ ?_
    · exact zw_some wr.rf
    · exact zw_some wr.rf
theorem w_X7_isStall (a1 : Int32) (σ0 : zg_S) : zw (W_X7_isStall) σ0 (f_X7_isStall a1 σ0) := by
  unfold f_X7_isStall
  refine zw_call (w_X7_isIn (Int32.toInt64 a1) (Int32.toInt64 0) (Int32.toInt64 ((σ0 1 0) - 1)) σ0) (fun p k h => False.elim h) wr.rf (fun r1 σ2 hσ2 => ?_)
  refine zw_ite ?_ zw_none
  exact zw_some hσ2
theorem w_X7_of (a1 : Int32) (a2 : Int32) (σ0 : zg_S) : zw (W_X7_of) σ0 (f_X7_of a1 a2 σ0) := by
  unfold f_X7_of
  refine zw_in (fun z1 => ?_)
  exact zw_some wr.rf
theorem wB_X7_isOf_19 (σ0 : zg_S) (a0 : Int32) (a1 : Int32) (s : zg_S) (hs : wr (W_X7_isOf) σ0 s) : zw (W_X7_isOf) σ0 (B_X7_isOf_19 a0 a1 s) := by
  unfold B_X7_isOf_19
  refine zw_ite ?_ ?_
  · refine zw_ite ?_ ?_
    · exact zw_some hs
    · exact zw_some hs
  · exact zw_some hs
theorem w_X7_isOf (a0 : Int32) (a1 : Int32) (σ0 : zg_S) : zw (W_X7_isOf) σ0 (f_X7_isOf a0 a1 σ0) := by
  unfold f_X7_isOf
  refine zw_ite ?_ ?_
  · exact zw_some wr.rf
  · refine zw_ite ?_ ?_
    · exact zw_some wr.rf
    · refine zw_ite ?_ ?_
      · refine zw_ite ?_ ?_
        · exact zw_some wr.rf
        · exact wB_X7_isOf_19 σ0 a0 a1 σ0  wr.rf
      · exact wB_X7_isOf_19 σ0 a0 a1 σ0  wr.rf
theorem w_X7_as (a1 : Int32) (a2 : Int32) (σ0 : zg_S) : zw (W_X7_as) σ0 (f_X7_as a1 a2 σ0) := by
  unfold f_X7_as
  refine zw_call (w_X7_isStall a1 σ0) (fun p k h => False.elim h) wr.rf (fun r1 σ2 hσ2 => ?_)
  refine zw_ite ?_ ?_
  · exact zw_some hσ2
  · refine zw_call (w_X7_isIn (Int32.toInt64 a2) (Int32.toInt64 0) (Int32.toInt64 5) σ2) (fun p k h => False.elim h) hσ2 (fun r11 σ12 hσ12 => ?_)
    refine zw_ite ?_ ?_
    · exact zw_some hσ12
    · refine zw_call (w_X7_of a1 0 σ12) (fun p k h => False.elim h) hσ12 (fun r20 σ21 hσ21 => ?_)
      refine zw_call (w_X7_isOf r20 a2 σ21) (fun p k h => False.elim h) hσ21 (fun r27 σ28 hσ28 => ?_)
      refine zw_ite ?_ ?_
      · exact zw_some hσ28
      · refine zw_call (w_X7_of a1 3 σ28) (fun p k h => False.elim h) hσ28 (fun r37 σ38 hσ38 => ?_)
        exact zw_some hσ38
theorem w_X7_isSlot (a0 : Int32) (σ0 : zg_S) : zw (W_X7_isSlot) σ0 (f_X7_isSlot a0 σ0) := by
  unfold f_X7_isSlot
  refine zw_call (w_X7_isIn (Int32.toInt64 a0) (Int32.toInt64 0) (Int32.toInt64 4) σ0) (fun p k h => False.elim h) wr.rf (fun r1 σ2 hσ2 => ?_)
  refine zw_ite ?_ zw_none
  exact zw_some hσ2
