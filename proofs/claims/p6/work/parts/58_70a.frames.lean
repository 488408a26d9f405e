theorem w_J0_coder_7d493 (q0 : Nat) (σ0 : zg_S) : zw (W_J0_coder_7d493) σ0 (f_J0_coder_7d493 q0 σ0) := by
  unfold f_J0_coder_7d493
  refine zw_ite ?_ zw_none
  exact zw_some wr.rf
theorem w_J0_length_8abf5 (q0 : Nat) (σ0 : zg_S) : zw (W_J0_length_8abf5) σ0 (f_J0_length_8abf5 q0 σ0) := by
  unfold f_J0_length_8abf5
  refine zw_call (w_J0_coder_7d493 q0 σ0) (fun p k h => False.elim h) wr.rf (fun r1 σ2 hσ2 => ?_)
  exact zw_some hσ2
theorem w_J0_isLatin1_aae02 (q0 : Nat) (σ0 : zg_S) : zw (W_J0_isLatin1_aae02) σ0 (f_J0_isLatin1_aae02 q0 σ0) := by
  unfold f_J0_isLatin1_aae02
  exact zw_some wr.rf
theorem wB_J3_checkIndex_8e157_9 (σ0 : zg_S) (a0 : Int32) (a1 : Int32) (s : zg_S) (hs : wr (W_J3_checkIndex_8e157) σ0 s) : zw (W_J3_checkIndex_8e157) σ0 (B_J3_checkIndex_8e157_9 a0 a1 s) := by
  unfold B_J3_checkIndex_8e157_9
  exact zw_none
theorem w_J3_checkIndex_8e157 (a0 : Int32) (a1 : Int32) (σ0 : zg_S) : zw (W_J3_checkIndex_8e157) σ0 (f_J3_checkIndex_8e157 a0 a1 σ0) := by
  unfold f_J3_checkIndex_8e157
  refine zw_ite ?_ ?_
  · exact wB_J3_checkIndex_8e157_9 σ0 a0 a1 σ0  wr.rf
  · refine zw_ite ?_ ?_
    · exact zw_some wr.rf
    · exact wB_J3_checkIndex_8e157_9 σ0 a0 a1 σ0  wr.rf
theorem w_J0_checkIndex_df160 (a0 : Int32) (a1 : Int32) (σ0 : zg_S) : zw (W_J0_checkIndex_df160) σ0 (f_J0_checkIndex_df160 a0 a1 σ0) := by
  unfold f_J0_checkIndex_df160
  refine zw_call (w_J3_checkIndex_8e157 a0 a1 σ0) (fun p k h => False.elim h) wr.rf (fun r10 σ11 hσ11 => ?_)
  exact zw_some hσ11
theorem w_J1_charAt_3b067 (q0 : Nat) (a1 : Int32) (σ0 : zg_S) : zw (W_J1_charAt_3b067) σ0 (f_J1_charAt_3b067 q0 a1 σ0) := by
  unfold f_J1_charAt_3b067
  refine zw_call (w_J0_checkIndex_df160 a1 (nI (zz_len.getD q0 0)) σ0) (fun p k h => False.elim h) wr.rf (fun r1 σ2 hσ2 => ?_)
  refine zw_in (fun z1 => ?_)
  refine zw_ite ?_ zw_none
  exact zw_some hσ2
theorem w_J0_charAt_5068e (q0 : Nat) (a1 : Int32) (σ0 : zg_S) : zw (W_J0_charAt_5068e) σ0 (f_J0_charAt_5068e q0 a1 σ0) := by
  unfold f_J0_charAt_5068e
  refine zw_call (w_J0_isLatin1_aae02 q0 σ0) (fun p k h => False.elim h) wr.rf (fun r1 σ2 hσ2 => ?_)
  refine zw_ite zw_none ?_
  refine zw_call (w_J1_charAt_3b067 q0 a1 σ2) (fun p k h => False.elim h) hσ2 (fun r11 σ12 hσ12 => ?_)
  refine zw_ite ?_ zw_none
  exact zw_some hσ12
theorem w_J1_canEncode_9a6ad (a0 : Int32) (σ0 : zg_S) : zw (W_J1_canEncode_9a6ad) σ0 (f_J1_canEncode_9a6ad a0 σ0) := by
  unfold f_J1_canEncode_9a6ad
  refine zw_ite ?_ ?_
  · exact zw_some wr.rf
  · refine zw_ite ?_ ?_
    · exact zw_some wr.rf
    · exact zw_some wr.rf
theorem wB_J1_indexOfChar_4cfef_7 (σ0 : zg_S) (q0 : Nat) (a1 : Int32) (a2 : Int32) (a3 : Int32) (rec7_ : Int32 → Int32 → zg_S → Option (Int32 × zg_S)) (x4 : Int32) (x5 : Int32) (s : zg_S) (hrec7_ : ∀ (z0 : Int32) (z1 : Int32) (s : zg_S), wr (W_J1_indexOfChar_4cfef) σ0 s → zw (W_J1_indexOfChar_4cfef) σ0 (rec7_ z0 z1 s)) (hs : wr (W_J1_indexOfChar_4cfef) σ0 s) : zw (W_J1_indexOfChar_4cfef) σ0 (B_J1_indexOfChar_4cfef_7 q0 a1 a2 a3 rec7_ x4 x5 s) := by
  unfold B_J1_indexOfChar_4cfef_7
  refine zw_ite ?_ ?_
  · exact zw_some hs
  · refine zw_in (fun z1 => ?_)
    refine zw_ite ?_ ?_
    · exact zw_some hs
    · exact hrec7_ x4 (x5 + 1) s hs
theorem wL_J1_indexOfChar_4cfef_7 (σ0 : zg_S) (q0 : Nat) (a1 : Int32) (a2 : Int32) (a3 : Int32) (n : Nat) (x4 : Int32) (x5 : Int32) (s : zg_S) (hs : wr (W_J1_indexOfChar_4cfef) σ0 s) : zw (W_J1_indexOfChar_4cfef) σ0 (L_J1_indexOfChar_4cfef_7 q0 a1 a2 a3 n x4 x5 s) := by
  unfold L_J1_indexOfChar_4cfef_7
  exact zwf_II (fun r hr x4 x5 t ht => wB_J1_indexOfChar_4cfef_7 σ0 q0 a1 a2 a3 r x4 x5 t hr ht) n x4 x5 s hs
theorem w_J1_indexOfChar_4cfef (q0 : Nat) (a1 : Int32) (a2 : Int32) (a3 : Int32) (σ0 : zg_S) : zw (W_J1_indexOfChar_4cfef) σ0 (f_J1_indexOfChar_4cfef q0 a1 a2 a3 σ0) := by
  unfold f_J1_indexOfChar_4cfef
  exact wL_J1_indexOfChar_4cfef_7 σ0 q0 a1 a2 a3 zfu ((Int32.toInt8 a1).toInt32) a2 σ0  wr.rf
theorem w_J1_indexOf_4cfef (q0 : Nat) (a1 : Int32) (a2 : Int32) (a3 : Int32) (σ0 : zg_S) : zw (W_J1_indexOf_4cfef) σ0 (f_J1_indexOf_4cfef q0 a1 a2 a3 σ0) := by
  unfold f_J1_indexOf_4cfef
  refine zw_call (w_J1_canEncode_9a6ad a1 σ0) (fun p k h => False.elim h) wr.rf (fun r1 σ2 hσ2 => ?_)
  refine zw_ite ?_ ?_
  · exact zw_some hσ2
  · refine zw_let (fun y12 => ?_)
    refine zw_ite ?_ ?_
    · refine zw_call (w_J1_indexOfChar_4cfef q0 a1 (if a2 < 0 then 0 else a2) y12 σ2) (fun p k h => False.elim h) hσ2 (fun r19 σ20 hσ20 => ?_)
      exact zw_some hσ20
    · exact zw_some hσ2
theorem w_J0_indexOf_7cf53 (q0 : Nat) (a1 : Int32) (a2 : Int32) (σ0 : zg_S) : zw (W_J0_indexOf_7cf53) σ0 (f_J0_indexOf_7cf53 q0 a1 a2 σ0) := by
  unfold f_J0_indexOf_7cf53
  refine zw_call (w_J0_isLatin1_aae02 q0 σ0) (fun p k h => False.elim h) wr.rf (fun r1 σ2 hσ2 => ?_)
  refine zw_ite zw_none ?_
  refine zw_call (w_J0_length_8abf5 q0 σ2) (fun p k h => False.elim h) hσ2 (fun r11 σ12 hσ12 => ?_)
  refine zw_call (w_J1_indexOf_4cfef q0 a1 a2 r11 σ12) (fun p k h => False.elim h) hσ12 (fun r18 σ19 hσ19 => ?_)
  exact zw_some hσ19
theorem w_J0_indexOf_0f7a4 (q0 : Nat) (a1 : Int32) (σ0 : zg_S) : zw (W_J0_indexOf_0f7a4) σ0 (f_J0_indexOf_0f7a4 q0 a1 σ0) := by
  unfold f_J0_indexOf_0f7a4
  refine zw_call (w_J0_indexOf_7cf53 q0 a1 0 σ0) (fun p k h => False.elim h) wr.rf (fun r1 σ2 hσ2 => ?_)
  exact zw_some hσ2
theorem w_J6_bitCount_0f7a4 (a0 : Int32) (σ0 : zg_S) : zw (W_J6_bitCount_0f7a4) σ0 (f_J6_bitCount_0f7a4 a0 σ0) := by
  unfold f_J6_bitCount_0f7a4
  refine zw_let (fun y1 => ?_)
  refine zw_let (fun y6 => ?_)
  refine zw_let (fun y11 => ?_)
  refine zw_let (fun y16 => ?_)
  refine zw_let (fun y21 => ?_)
  exact zw_some wr.rf
theorem wB_X0_allGoods_4 (σ0 : zg_S) (q0 : Nat) (rec4_ : Int32 → Int32 → zg_S → Option (Int32 × zg_S)) (x1 : Int32) (x2 : Int32) (s : zg_S) (hrec4_ : ∀ (z0 : Int32) (z1 : Int32) (s : zg_S), wr (W_X0_allGoods) σ0 s → zw (W_X0_allGoods) σ0 (rec4_ z0 z1 s)) (hs : wr (W_X0_allGoods) σ0 s) : zw (W_X0_allGoods) σ0 (B_X0_allGoods_4 q0 rec4_ x1 x2 s) := by
  unfold B_X0_allGoods_4
  refine zw_ite ?_ ?_
  · exact zw_some hs
  · refine zw_in (fun z1 => ?_)
    refine zw_let (fun y7 => ?_)
    exact hrec4_ y7 (x2 + 1) s hs
theorem wL_X0_allGoods_4 (σ0 : zg_S) (q0 : Nat) (n : Nat) (x1 : Int32) (x2 : Int32) (s : zg_S) (hs : wr (W_X0_allGoods) σ0 s) : zw (W_X0_allGoods) σ0 (L_X0_allGoods_4 q0 n x1 x2 s) := by
  unfold L_X0_allGoods_4
  exact zwf_II (fun r hr x1 x2 t ht => wB_X0_allGoods_4 σ0 q0 r x1 x2 t hr ht) n x1 x2 s hs
theorem w_X0_allGoods (q0 : Nat) (σ0 : zg_S) : zw (W_X0_allGoods) σ0 (f_X0_allGoods q0 σ0) := by
  unfold f_X0_allGoods
  exact wL_X0_allGoods_4 σ0 q0 zfu 0 0 σ0  wr.rf
theorem w_X0_draw (q0 : Nat) (σ0 : zg_S) : zw (W_X0_draw q0) σ0 (f_X0_draw q0 σ0) := by
  unfold f_X0_draw
  refine zw_let (fun y1 => ?_)
  refine zw_up (by unfold W_X0_draw; omega) wr.rf (fun σ4 hσ4 => ?_)
  exact zw_some hσ4
theorem w_X0_lastFirst (q0 : Nat) (σ0 : zg_S) : zw (W_X0_lastFirst) σ0 (f_X0_lastFirst q0 σ0) := by
  unfold f_X0_lastFirst
  exact zw_some wr.rf
theorem w_X6_held (a0 : Int32) (a1 : Int32) (a2 : Int32) (σ0 : zg_S) : zw (W_X6_held) σ0 (f_X6_held a0 a1 a2 σ0) := by
  unfold f_X6_held
  refine zw_let (fun y1 => ?_)
  exact zw_some wr.rf
theorem w_X0_blow (q0 : Nat) (σ0 : zg_S) : zw (W_X0_blow q0) σ0 (f_X0_blow q0 σ0) := by
  unfold f_X0_blow
  refine zw_call (w_X0_draw q0 σ0) (fun p k h => by unfold W_X0_draw at h; unfold W_X0_blow; omega) wr.rf (fun r1 σ2 hσ2 => ?_)
  refine zw_ite ?_ ?_
  · refine zw_call (w_X0_draw q0 σ2) (fun p k h => by unfold W_X0_draw at h; unfold W_X0_blow; omega) hσ2 (fun r10 σ11 hσ11 => ?_)
    refine zw_call (w_X0_lastFirst q0 σ11) (fun p k h => False.elim h) hσ11 (fun r19 σ20 hσ20 => ?_)
    refine zw_call (w_X6_held ((σ11 q0 6) + ((r10 - r10 / 3 * 3) - 1)) 0 r19 σ20) (fun p k h => False.elim h) hσ20 (fun r26 σ27 hσ27 => ?_)
    refine zw_up (by unfold W_X0_blow; omega) hσ27 (fun σ33 hσ33 => ?_)
    refine zw_ite ?_ ?_
    · exact zw_some hσ33
    · refine zw_up (by unfold W_X0_blow; omega) hσ33 (fun σ42 hσ42 => ?_)
      exact zw_some hσ42
  · exact zw_some hσ2
theorem w_X6_within (a0 : Int32) (a1 : Int32) (a2 : Int32) (σ0 : zg_S) : zw (W_X6_within) σ0 (f_X6_within a0 a1 a2 σ0) := by
  unfold f_X6_within
  refine zw_ite ?_ ?_
  · exact zw_some wr.rf
  · refine zw_ite ?_ ?_
    · exact zw_some wr.rf
    · exact zw_some wr.rf
theorem w_X2_hasPlace (q0 : Nat) (a1 : Int32) (σ0 : zg_S) : zw (W_X2_hasPlace) σ0 (f_X2_hasPlace q0 a1 σ0) := by
  unfold f_X2_hasPlace
  refine zw_call (w_X6_within a1 0 ((σ0 q0 1) - 1) σ0) (fun p k h => False.elim h) wr.rf (fun r1 σ2 hσ2 => ?_)
  refine zw_ite ?_ zw_none
  exact zw_some hσ2
theorem w_X2_hasNumber (q0 : Nat) (a1 : Int32) (σ0 : zg_S) : zw (W_X2_hasNumber) σ0 (f_X2_hasNumber q0 a1 σ0) := by
  unfold f_X2_hasNumber
  refine zw_call (w_X2_hasPlace q0 a1 σ0) (fun p k h => False.elim h) wr.rf (fun r1 σ2 hσ2 => ?_)
  refine zw_ite ?_ ?_
  · exact zw_some hσ2
  · refine zw_in (fun z1 => ?_)
    refine zw_ite ?_ ?_
    · exact zw_some hσ2
    · exact zw_some hσ2
theorem wB_X0_differencesFrom_42 (σ0 : zg_S) (q0 : Nat) (q1 : Nat) (rec4_ : Int32 → Int32 → zg_S → Option (Int32 × zg_S)) (x2 : Int32) (x3 : Int32) (s : zg_S) (hrec4_ : ∀ (z0 : Int32) (z1 : Int32) (s : zg_S), wr (W_X0_differencesFrom) σ0 s → zw (W_X0_differencesFrom) σ0 (rec4_ z0 z1 s)) (hs : wr (W_X0_differencesFrom) σ0 s) : zw (W_X0_differencesFrom) σ0 (B_X0_differencesFrom_42 q0 q1 rec4_ x2 x3 s) := by
  unfold B_X0_differencesFrom_42
  exact hrec4_ x2 (x3 + 1) s hs
theorem wB_X0_differencesFrom_4 (σ0 : zg_S) (q0 : Nat) (q1 : Nat) (rec4_ : Int32 → Int32 → zg_S → Option (Int32 × zg_S)) (x2 : Int32) (x3 : Int32) (s : zg_S) (hrec4_ : ∀ (z0 : Int32) (z1 : Int32) (s : zg_S), wr (W_X0_differencesFrom) σ0 s → zw (W_X0_differencesFrom) σ0 (rec4_ z0 z1 s)) (hs : wr (W_X0_differencesFrom) σ0 s) : zw (W_X0_differencesFrom) σ0 (B_X0_differencesFrom_4 q0 q1 rec4_ x2 x3 s) := by
  unfold B_X0_differencesFrom_4
  refine zw_ite ?_ ?_
  · exact zw_some hs
  · refine zw_call (w_X2_hasNumber q1 x3 s) (fun p k h => False.elim h) hs (fun r6 σ7 hσ7 => ?_)
    refine zw_ite ?_ ?_
    · exact wB_X0_differencesFrom_42 σ0 q0 q1 rec4_ x2 x3 σ7 hrec4_ hσ7
    · refine zw_in (fun z1 => ?_)
      refine zw_in (fun z2 => ?_)
      refine zw_let (fun y22 => ?_)
      exact wB_X0_differencesFrom_42 σ0 q0 q1 rec4_ (x2 + y22) x3 σ7 hrec4_ hσ7
theorem wL_X0_differencesFrom_4 (σ0 : zg_S) (q0 : Nat) (q1 : Nat) (n : Nat) (x2 : Int32) (x3 : Int32) (s : zg_S) (hs : wr (W_X0_differencesFrom) σ0 s) : zw (W_X0_differencesFrom) σ0 (L_X0_differencesFrom_4 q0 q1 n x2 x3 s) := by
  unfold L_X0_differencesFrom_4
  exact zwf_II (fun r hr x2 x3 t ht => wB_X0_differencesFrom_4 σ0 q0 q1 r x2 x3 t hr ht) n x2 x3 s hs
theorem w_X0_differencesFrom (q0 : Nat) (q1 : Nat) (σ0 : zg_S) : zw (W_X0_differencesFrom) σ0 (f_X0_differencesFrom q0 q1 σ0) := by
  unfold f_X0_differencesFrom
  exact wL_X0_differencesFrom_4 σ0 q0 q1 zfu 0 0 σ0  wr.rf
theorem w_X5_takeOver (q0 : Nat) (q1 : Nat) (σ0 : zg_S) : zw (W_X5_takeOver q0) σ0 (f_X5_takeOver q0 q1 σ0) := by
  unfold f_X5_takeOver
  refine zw_up (by unfold W_X5_takeOver; omega) wr.rf (fun σ1 hσ1 => ?_)
  refine zw_up (by unfold W_X5_takeOver; omega) hσ1 (fun σ7 hσ7 => ?_)
  refine zw_up (by unfold W_X5_takeOver; omega) hσ7 (fun σ13 hσ13 => ?_)
  refine zw_ite ?_ zw_none
  refine zw_row (fun j => by unfold W_X5_takeOver; omega) hσ13 (fun σ25 hσ25 => ?_)
  exact zw_some hσ25
theorem w_X0_enact (q0 : Nat) (q1 : Nat) (σ0 : zg_S) : zw (W_X0_enact q0) σ0 (f_X0_enact q0 q1 σ0) := by
  unfold f_X0_enact
  refine zw_ite ?_ ?_
  · exact zw_some wr.rf
  · refine zw_call (w_X6_within (σ0 q1 0) 0 2 σ0) (fun p k h => False.elim h) wr.rf (fun r4 σ5 hσ5 => ?_)
    refine zw_ite ?_ ?_
    · exact zw_some hσ5
    · refine zw_in (fun z1 => ?_)
      refine zw_call (w_X5_takeOver (11 + 3 * (Int32.toNatClampNeg (σ5 q0 4))) q1 σ5) (fun p k h => by unfold W_X5_takeOver at h; unfold W_X0_enact; omega) hσ5 (fun r16 σ17 hσ17 => ?_)
      refine zw_in (fun z2 => ?_)
      refine zw_up (by unfold W_X0_enact; omega) hσ17 (fun σ26 hσ26 => ?_)
      refine zw_up (by unfold W_X0_enact; omega) hσ26 (fun σ32 hσ32 => ?_)
      exact zw_some hσ32
theorem w_X0_slant (q0 : Nat) (σ0 : zg_S) : zw (W_X0_slant) σ0 (f_X0_slant q0 σ0) := by
  unfold f_X0_slant
  exact zw_some wr.rf
theorem w_X0_wouldShade (q0 : Nat) (a1 : Int32) (a2 : Int32) (σ0 : zg_S) : zw (W_X0_wouldShade) σ0 (f_X0_wouldShade q0 a1 a2 σ0) := by
  unfold f_X0_wouldShade
  refine zw_call (w_X0_slant q0 σ0) (fun p k h => False.elim h) wr.rf (fun r1 σ2 hσ2 => ?_)
  refine zw_ite ?_ ?_
  · exact zw_some hσ2
  · refine zw_ite ?_ ?_
    · exact zw_some hσ2
    · exact zw_some hσ2
theorem w_X0_shades (q0 : Nat) (a1 : Int32) (σ0 : zg_S) : zw (W_X0_shades) σ0 (f_X0_shades q0 a1 σ0) := by
  unfold f_X0_shades
  refine zw_call (w_X0_wouldShade q0 (σ0 q0 6) a1 σ0) (fun p k h => False.elim h) wr.rf (fun r1 σ2 hσ2 => ?_)
  refine zw_ite ?_ zw_none
  exact zw_some hσ2
theorem wB_X0_firstShaded_2 (σ0 : zg_S) (q0 : Nat) (rec2_ : Int32 → zg_S → Option (Int32 × zg_S)) (x1 : Int32) (s : zg_S) (hrec2_ : ∀ (z0 : Int32) (s : zg_S), wr (W_X0_firstShaded) σ0 s → zw (W_X0_firstShaded) σ0 (rec2_ z0 s)) (hs : wr (W_X0_firstShaded) σ0 s) : zw (W_X0_firstShaded) σ0 (B_X0_firstShaded_2 q0 rec2_ x1 s) := by
  unfold B_X0_firstShaded_2
  refine zw_ite ?_ ?_
  · exact zw_some hs
  · refine zw_call (w_X0_shades q0 x1 s) (fun p k h => False.elim h) hs (fun r4 σ5 hσ5 => ?_)
    refine zw_ite ?_ ?_
    · exact hrec2_ (x1 + 1) σ5 hσ5
    · exact zw_some hσ5
theorem wL_X0_firstShaded_2 (σ0 : zg_S) (q0 : Nat) (n : Nat) (x1 : Int32) (s : zg_S) (hs : wr (W_X0_firstShaded) σ0 s) : zw (W_X0_firstShaded) σ0 (L_X0_firstShaded_2 q0 n x1 s) := by
  unfold L_X0_firstShaded_2
  exact zwf_I (fun r hr x1 t ht => wB_X0_firstShaded_2 σ0 q0 r x1 t hr ht) n x1 s hs
theorem w_X0_firstShaded (q0 : Nat) (σ0 : zg_S) : zw (W_X0_firstShaded) σ0 (f_X0_firstShaded q0 σ0) := by
  unfold f_X0_firstShaded
  exact wL_X0_firstShaded_2 σ0 q0 zfu 0 σ0  wr.rf
theorem w_X0_hauledTo (q0 : Nat) (a1 : Int32) (σ0 : zg_S) : zw (W_X0_hauledTo) σ0 (f_X0_hauledTo q0 a1 σ0) := by
  unfold f_X0_hauledTo
  refine zw_ite ?_ ?_
  · refine zw_let (fun y3 => ?_)
    exact zw_some wr.rf
  · refine zw_ite ?_ ?_
    · refine zw_call (w_X0_lastFirst q0 σ0) (fun p k h => False.elim h) wr.rf (fun r9 σ10 hσ10 => ?_)
      refine zw_let (fun y16 => ?_)
      exact zw_some hσ10
    · exact zw_some wr.rf
theorem w_X4_shadeLoss (q0 : Nat) (σ0 : zg_S) : zw (W_X4_shadeLoss) σ0 (f_X4_shadeLoss q0 σ0) := by
  unfold f_X4_shadeLoss
  refine zw_ite ?_ ?_
  · exact zw_some wr.rf
  · exact zw_some wr.rf
theorem w_X0_heat (q0 : Nat) (σ0 : zg_S) : zw (W_X0_heat) σ0 (f_X0_heat q0 σ0) := by
  unfold f_X0_heat
  refine zw_let (fun y1 => ?_)
  exact zw_some wr.rf
theorem w_X5_joined (a0 : Int32) (a1 : Int32) (a2 : Int32) (σ0 : zg_S) : zw (W_X5_joined) σ0 (f_X5_joined a0 a1 a2 σ0) := by
  unfold f_X5_joined
  refine zw_ite ?_ ?_
  · refine zw_ite ?_ ?_
    · exact zw_some wr.rf
    · refine zw_ite ?_ ?_
      · exact zw_some wr.rf
      · exact zw_some wr.rf
  · refine zw_ite ?_ ?_
    · exact zw_some wr.rf
    · refine zw_ite ?_ ?_
      · exact zw_some wr.rf
      · refine zw_ite ?_ ?_
        · exact zw_some wr.rf
        · refine zw_ite ?_ ?_
          · refine zw_ite ?_ ?_
            · exact zw_some wr.rf
            · exact zw_some wr.rf
          · refine zw_ite ?_ ?_
            · refine zw_ite ?_ ?_
              · exact zw_some wr.rf
              · exact zw_some wr.rf
            · refine zw_ite ?_ ?_
              · refine zw_ite ?_ ?_
                · exact zw_some wr.rf
                · exact zw_some wr.rf
              · refine zw_ite ?_ ?_
                · refine zw_ite ?_ ?_
                  · refine zw_ite ?_ ?_
                    · exact zw_some wr.rf
                    · exact zw_some wr.rf
                  · exact zw_some wr.rf
                · refine zw_ite ?_ ?_
                  · exact zw_some wr.rf
                  · refine zw_ite zw_none ?_
                    exact zw_some wr.rf
theorem wB_X5_workOut_169 (σ0 : zg_S) (q0 : Nat) (a1 : Int32) (a2 : Int32) (a3 : Int32) (rec6_ : Int32 → Int32 → zg_S → Option (Int32 × zg_S)) (x4 : Int32) (x5 : Int32) (s : zg_S) (hrec6_ : ∀ (z0 : Int32) (z1 : Int32) (s : zg_S), wr (W_X5_workOut q0) σ0 s → zw (W_X5_workOut q0) σ0 (rec6_ z0 z1 s)) (hs : wr (W_X5_workOut q0) σ0 s) : zw (W_X5_workOut q0) σ0 (B_X5_workOut_169 q0 a1 a2 a3 rec6_ x4 x5 s) := by
  unfold B_X5_workOut_169
  exact hrec6_ x4 (x5 + 1) s hs
theorem wB_X5_workOut_122 (σ0 : zg_S) (q0 : Nat) (a1 : Int32) (a2 : Int32) (a3 : Int32) (rec6_ : Int32 → Int32 → zg_S → Option (Int32 × zg_S)) (x4 : Int32) (x5 : Int32) (y0 : Int32) (y1 : Int32) (s : zg_S) (hrec6_ : ∀ (z0 : Int32) (z1 : Int32) (s : zg_S), wr (W_X5_workOut q0) σ0 s → zw (W_X5_workOut q0) σ0 (rec6_ z0 z1 s)) (hs : wr (W_X5_workOut q0) σ0 s) : zw (W_X5_workOut q0) σ0 (B_X5_workOut_122 q0 a1 a2 a3 rec6_ x4 x5 y0 y1 s) := by
  unfold B_X5_workOut_122
  refine zw_in (fun z1 => ?_)
  refine zw_up (by unfold W_X5_workOut; omega) hs (fun σ6 hσ6 => ?_)
  exact wB_X5_workOut_169 σ0 q0 a1 a2 a3 rec6_ x4 x5 σ6 hrec6_ hσ6
theorem wB_X5_workOut_82 (σ0 : zg_S) (q0 : Nat) (a1 : Int32) (a2 : Int32) (a3 : Int32) (rec6_ : Int32 → Int32 → zg_S → Option (Int32 × zg_S)) (x4 : Int32) (x5 : Int32) (y0 : Int32) (y1 : Int32) (s : zg_S) (hrec6_ : ∀ (z0 : Int32) (z1 : Int32) (s : zg_S), wr (W_X5_workOut q0) σ0 s → zw (W_X5_workOut q0) σ0 (rec6_ z0 z1 s)) (hs : wr (W_X5_workOut q0) σ0 s) : zw (W_X5_workOut q0) σ0 (B_X5_workOut_82 q0 a1 a2 a3 rec6_ x4 x5 y0 y1 s) := by
  unfold B_X5_workOut_82
  refine zw_in (fun z1 => ?_)
  refine zw_up (by unfold W_X5_workOut; omega) hs (fun σ15 hσ15 => ?_)
  exact wB_X5_workOut_169 σ0 q0 a1 a2 a3 rec6_ x4 x5 σ15 hrec6_ hσ15
theorem wB_X5_workOut_6 (σ0 : zg_S) (q0 : Nat) (a1 : Int32) (a2 : Int32) (a3 : Int32) (rec6_ : Int32 → Int32 → zg_S → Option (Int32 × zg_S)) (x4 : Int32) (x5 : Int32) (s : zg_S) (hrec6_ : ∀ (z0 : Int32) (z1 : Int32) (s : zg_S), wr (W_X5_workOut q0) σ0 s → zw (W_X5_workOut q0) σ0 (rec6_ z0 z1 s)) (hs : wr (W_X5_workOut q0) σ0 s) : zw (W_X5_workOut q0) σ0 (B_X5_workOut_6 q0 a1 a2 a3 rec6_ x4 x5 s) := by
  unfold B_X5_workOut_6
  refine zw_ite ?_ ?_
  · refine zw_ite ?_ ?_
    · refine zw_in (fun z1 => ?_)
      exact zw_some hs
    · exact zw_some hs
  · refine zw_in (fun z2 => ?_)
    refine zw_let (fun y33 => ?_)
    refine zw_ite ?_ ?_
    · refine zw_ite ?_ ?_
      · refine zw_ite ?_ ?_
        · refine zw_in (fun z3 => ?_)
          refine zw_ite ?_ ?_
          · exact wB_X5_workOut_122 σ0 q0 a1 a2 a3 rec6_ x4 x5 1 x4 s hrec6_ hs
          · exact wB_X5_workOut_122 σ0 q0 a1 a2 a3 rec6_ x4 x5 0 x4 s hrec6_ hs
        · exact zw_some hs
      · refine zw_ite ?_ ?_
        · refine zw_in (fun z4 => ?_)
          refine zw_in (fun z5 => ?_)
          refine zw_call (w_X5_joined ((-1000) - y33) (s (q0 + 2) (Int32.toNatClampNeg (x4 + (-1)))) (s (q0 + 2) (Int32.toNatClampNeg ((x4 + (-1)) + 1))) s) (fun p k h => False.elim h) hs (fun r52 σ53 hσ53 => ?_)
          refine zw_up (by unfold W_X5_workOut; omega) hσ53 (fun σ59 hσ59 => ?_)
          exact wB_X5_workOut_169 σ0 q0 a1 a2 a3 rec6_ (x4 + (-1)) x5 σ59 hrec6_ hσ59
        · exact zw_some hs
    · refine zw_ite ?_ ?_
      · refine zw_ite ?_ ?_
        · refine zw_ite ?_ ?_
          · exact wB_X5_workOut_82 σ0 q0 a1 a2 a3 rec6_ (x4 + 1) x5 a1 (x4 + 1) s hrec6_ hs
          · refine zw_ite ?_ ?_
            · exact wB_X5_workOut_82 σ0 q0 a1 a2 a3 rec6_ (x4 + 1) x5 a2 (x4 + 1) s hrec6_ hs
            · exact wB_X5_workOut_82 σ0 q0 a1 a2 a3 rec6_ (x4 + 1) x5 a3 (x4 + 1) s hrec6_ hs
        · exact wB_X5_workOut_82 σ0 q0 a1 a2 a3 rec6_ (x4 + 1) x5 y33 (x4 + 1) s hrec6_ hs
      · exact zw_some hs
theorem wL_X5_workOut_6 (σ0 : zg_S) (q0 : Nat) (a1 : Int32) (a2 : Int32) (a3 : Int32) (n : Nat) (x4 : Int32) (x5 : Int32) (s : zg_S) (hs : wr (W_X5_workOut q0) σ0 s) : zw (W_X5_workOut q0) σ0 (L_X5_workOut_6 q0 a1 a2 a3 n x4 x5 s) := by
  unfold L_X5_workOut_6
  exact zwf_II (fun r hr x4 x5 t ht => wB_X5_workOut_6 σ0 q0 a1 a2 a3 r x4 x5 t hr ht) n x4 x5 s hs
theorem w_X5_workOut (q0 : Nat) (a1 : Int32) (a2 : Int32) (a3 : Int32) (σ0 : zg_S) : zw (W_X5_workOut q0) σ0 (f_X5_workOut q0 a1 a2 a3 σ0) := by
  unfold f_X5_workOut
  exact wL_X5_workOut_6 σ0 q0 a1 a2 a3 zfu (-1) 0 σ0  wr.rf
theorem w_X0_plainLoss (q0 : Nat) (q1 : Nat) (σ0 : zg_S) : zw (W_X0_plainLoss) σ0 (f_X0_plainLoss q0 q1 σ0) := by
  unfold f_X0_plainLoss
  refine zw_call (w_X6_within (σ0 (q0 + 2) 0) 0 13 σ0) (fun p k h => False.elim h) wr.rf (fun r3 σ4 hσ4 => ?_)
  refine zw_ite ?_ ?_
  · refine zw_call (w_X0_heat q0 σ4) (fun p k h => False.elim h) hσ4 (fun r37 σ38 hσ38 => ?_)
    exact zw_some hσ38
  · refine zw_in (fun z1 => ?_)
    refine zw_call (w_X0_heat q0 σ4) (fun p k h => False.elim h) hσ4 (fun r15 σ16 hσ16 => ?_)
    refine zw_call (w_X5_workOut (11 + 3 * (Int32.toNatClampNeg (σ0 (q0 + 2) 0))) r15 (σ16 q1 2) (σ16 q1 3) σ16) (fun p k h => by unfold W_X5_workOut at h; unfold W_X0_plainLoss; omega) hσ16 (fun r22 σ23 hσ23 => ?_)
    refine zw_call (w_X6_held r22 0 (σ23 q1 2) σ23) (fun p k h => False.elim h) hσ23 (fun r29 σ30 hσ30 => ?_)
    exact zw_some hσ30
theorem w_X4_sunLoss (q0 : Nat) (a1 : Int32) (σ0 : zg_S) : zw (W_X4_sunLoss) σ0 (f_X4_sunLoss q0 a1 σ0) := by
  unfold f_X4_sunLoss
  refine zw_ite ?_ ?_
  · exact zw_some wr.rf
  · refine zw_ite ?_ ?_
    · exact zw_some wr.rf
    · refine zw_ite ?_ ?_
      · exact zw_some wr.rf
      · refine zw_ite ?_ ?_
        · exact zw_some wr.rf
        · refine zw_ite ?_ ?_
          · exact zw_some wr.rf
          · exact zw_some wr.rf
theorem wB_X0_lossOf_36 (σ0 : zg_S) (q0 : Nat) (q1 : Nat) (y0 : Int32) (s : zg_S) (hs : wr (W_X0_lossOf) σ0 s) : zw (W_X0_lossOf) σ0 (B_X0_lossOf_36 q0 q1 y0 s) := by
  unfold B_X0_lossOf_36
  refine zw_let (fun y3 => ?_)
  exact zw_some hs
theorem w_X0_lossOf (q0 : Nat) (q1 : Nat) (σ0 : zg_S) : zw (W_X0_lossOf) σ0 (f_X0_lossOf q0 q1 σ0) := by
  unfold f_X0_lossOf
  refine zw_ite ?_ ?_
  · exact zw_some wr.rf
  · refine zw_call (w_X0_shades q0 (σ0 q1 1) σ0) (fun p k h => False.elim h) wr.rf (fun r8 σ9 hσ9 => ?_)
    refine zw_ite ?_ ?_
    · refine zw_call (w_X0_plainLoss q0 q1 σ9) (fun p k h => by unfold W_X0_plainLoss at h; unfold W_X0_lossOf; omega) hσ9 (fun r17 σ18 hσ18 => ?_)
      refine zw_call (w_X4_sunLoss q1 r17 σ18) (fun p k h => False.elim h) hσ18 (fun r24 σ25 hσ25 => ?_)
      exact wB_X0_lossOf_36 σ0 q0 q1 r24 σ25  hσ25
    · refine zw_call (w_X4_shadeLoss q1 σ9) (fun p k h => False.elim h) hσ9 (fun r32 σ33 hσ33 => ?_)
      exact wB_X0_lossOf_36 σ0 q0 q1 r32 σ33  hσ33
theorem wB_X0_haulingByLoss_78 (σ0 : zg_S) (q0 : Nat) (rec6_ : Int32 → Int32 → Int32 → zg_S → Option (Int32 × zg_S)) (x1 : Int32) (x2 : Int32) (x3 : Int32) (s : zg_S) (hrec6_ : ∀ (z0 : Int32) (z1 : Int32) (z2 : Int32) (s : zg_S), wr (W_X0_haulingByLoss) σ0 s → zw (W_X0_haulingByLoss) σ0 (rec6_ z0 z1 z2 s)) (hs : wr (W_X0_haulingByLoss) σ0 s) : zw (W_X0_haulingByLoss) σ0 (B_X0_haulingByLoss_78 q0 rec6_ x1 x2 x3 s) := by
  unfold B_X0_haulingByLoss_78
  exact hrec6_ x1 x2 (x3 + 1) s hs
theorem wB_X0_haulingByLoss_77 (σ0 : zg_S) (q0 : Nat) (rec6_ : Int32 → Int32 → Int32 → zg_S → Option (Int32 × zg_S)) (x2 : Int32) (x3 : Int32) (y0 : Int32) (s : zg_S) (hrec6_ : ∀ (z0 : Int32) (z1 : Int32) (z2 : Int32) (s : zg_S), wr (W_X0_haulingByLoss) σ0 s → zw (W_X0_haulingByLoss) σ0 (rec6_ z0 z1 z2 s)) (hs : wr (W_X0_haulingByLoss) σ0 s) : zw (W_X0_haulingByLoss) σ0 (B_X0_haulingByLoss_77 q0 rec6_ x2 x3 y0 s) := by
  unfold B_X0_haulingByLoss_77
  exact wB_X0_haulingByLoss_78 σ0 q0 rec6_ y0 x2 x3 s hrec6_ hs
theorem wB_X0_haulingByLoss_6 (σ0 : zg_S) (q0 : Nat) (rec6_ : Int32 → Int32 → Int32 → zg_S → Option (Int32 × zg_S)) (x1 : Int32) (x2 : Int32) (x3 : Int32) (s : zg_S) (hrec6_ : ∀ (z0 : Int32) (z1 : Int32) (z2 : Int32) (s : zg_S), wr (W_X0_haulingByLoss) σ0 s → zw (W_X0_haulingByLoss) σ0 (rec6_ z0 z1 z2 s)) (hs : wr (W_X0_haulingByLoss) σ0 s) : zw (W_X0_haulingByLoss) σ0 (B_X0_haulingByLoss_6 q0 rec6_ x1 x2 x3 s) := by
  unfold B_X0_haulingByLoss_6
  refine zw_ite ?_ ?_
  · exact zw_some hs
  · refine zw_in (fun z1 => ?_)
    refine zw_call (w_X0_shades q0 (s ((q0 + 1) + 2 + (Int32.toNatClampNeg x3)) 1) s) (fun p k h => False.elim h) hs (fun r30 σ31 hσ31 => ?_)
    refine zw_ite ?_ ?_
    · refine zw_call (w_X0_lossOf q0 ((q0 + 1) + 2 + (Int32.toNatClampNeg x3)) σ31) (fun p k h => by unfold W_X0_lossOf at h; unfold W_X0_haulingByLoss; omega) hσ31 (fun r39 σ40 hσ40 => ?_)
      unfold B_X0_haulingByLoss_44
      refine zw_ite ?_ ?_
      · exact wB_X0_haulingByLoss_78 σ0 q0 rec6_ x1 x2 x3 σ40 hrec6_ hσ40
      · refine zw_call (w_X0_slant q0 σ40) (fun p k h => False.elim h) hσ40 (fun r12 σ13 hσ13 => ?_)
        refine zw_ite ?_ ?_
        · exact wB_X0_haulingByLoss_77 σ0 q0 rec6_ r39 x3 2 σ13 hrec6_ hσ13
        · exact wB_X0_haulingByLoss_77 σ0 q0 rec6_ r39 x3 1 σ13 hrec6_ hσ13
    · unfold B_X0_haulingByLoss_44
      refine zw_ite ?_ ?_
      · exact wB_X0_haulingByLoss_78 σ0 q0 rec6_ x1 x2 x3 σ31 hrec6_ hσ31
      · refine zw_call (w_X0_slant q0 σ31) (fun p k h => False.elim h) hσ31 (fun r12 σ13 hσ13 => ?_)
        refine zw_ite ?_ ?_
        · exact wB_X0_haulingByLoss_77 σ0 q0 rec6_ 0 x3 2 σ13 hrec6_ hσ13
        · exact wB_X0_haulingByLoss_77 σ0 q0 rec6_ 0 x3 1 σ13 hrec6_ hσ13
theorem wL_X0_haulingByLoss_6 (σ0 : zg_S) (q0 : Nat) (n : Nat) (x1 : Int32) (x2 : Int32) (x3 : Int32) (s : zg_S) (hs : wr (W_X0_haulingByLoss) σ0 s) : zw (W_X0_haulingByLoss) σ0 (L_X0_haulingByLoss_6 q0 n x1 x2 x3 s) := by
  unfold L_X0_haulingByLoss_6
  exact zwf_III (fun r hr x1 x2 x3 t ht => wB_X0_haulingByLoss_6 σ0 q0 r x1 x2 x3 t hr ht) n x1 x2 x3 s hs
theorem w_X0_haulingByLoss (q0 : Nat) (σ0 : zg_S) : zw (W_X0_haulingByLoss) σ0 (f_X0_haulingByLoss q0 σ0) := by
  unfold f_X0_haulingByLoss
  exact wL_X0_haulingByLoss_6 σ0 q0 zfu 0 0 0 σ0  wr.rf
theorem wB_X0_payUnder_41 (σ0 : zg_S) (q0 : Nat) (a1 : Int32) (rec4_ : Int32 → Int32 → zg_S → Option (Int32 × zg_S)) (x2 : Int32) (x3 : Int32) (s : zg_S) (hrec4_ : ∀ (z0 : Int32) (z1 : Int32) (s : zg_S), wr (W_X0_payUnder) σ0 s → zw (W_X0_payUnder) σ0 (rec4_ z0 z1 s)) (hs : wr (W_X0_payUnder) σ0 s) : zw (W_X0_payUnder) σ0 (B_X0_payUnder_41 q0 a1 rec4_ x2 x3 s) := by
  unfold B_X0_payUnder_41
  exact hrec4_ x2 (x3 + 1) s hs
theorem wB_X0_payUnder_4 (σ0 : zg_S) (q0 : Nat) (a1 : Int32) (rec4_ : Int32 → Int32 → zg_S → Option (Int32 × zg_S)) (x2 : Int32) (x3 : Int32) (s : zg_S) (hrec4_ : ∀ (z0 : Int32) (z1 : Int32) (s : zg_S), wr (W_X0_payUnder) σ0 s → zw (W_X0_payUnder) σ0 (rec4_ z0 z1 s)) (hs : wr (W_X0_payUnder) σ0 s) : zw (W_X0_payUnder) σ0 (B_X0_payUnder_4 q0 a1 rec4_ x2 x3 s) := by
  unfold B_X0_payUnder_4
  refine zw_ite ?_ ?_
  · exact zw_some hs
  · refine zw_in (fun z1 => ?_)
    refine zw_call (w_X0_wouldShade q0 a1 (s ((q0 + 1) + 2 + (Int32.toNatClampNeg x3)) 1) s) (fun p k h => False.elim h) hs (fun r9 σ10 hσ10 => ?_)
    refine zw_ite ?_ ?_
    · exact wB_X0_payUnder_41 σ0 q0 a1 rec4_ x2 x3 σ10 hrec4_ hσ10
    · refine zw_let (fun y19 => ?_)
      exact wB_X0_payUnder_41 σ0 q0 a1 rec4_ y19 x3 σ10 hrec4_ hσ10
theorem wL_X0_payUnder_4 (σ0 : zg_S) (q0 : Nat) (a1 : Int32) (n : Nat) (x2 : Int32) (x3 : Int32) (s : zg_S) (hs : wr (W_X0_payUnder) σ0 s) : zw (W_X0_payUnder) σ0 (L_X0_payUnder_4 q0 a1 n x2 x3 s) := by
  unfold L_X0_payUnder_4
  exact zwf_II (fun r hr x2 x3 t ht => wB_X0_payUnder_4 σ0 q0 a1 r x2 x3 t hr ht) n x2 x3 s hs
theorem w_X0_payUnder (q0 : Nat) (a1 : Int32) (σ0 : zg_S) : zw (W_X0_payUnder) σ0 (f_X0_payUnder q0 a1 σ0) := by
  unfold f_X0_payUnder
  exact wL_X0_payUnder_4 σ0 q0 a1 zfu 0 0 σ0  wr.rf
theorem wB_X0_haulingByPay_33 (σ0 : zg_S) (q0 : Nat) (rec6_ : Int32 → Int32 → Int32 → zg_S → Option (Int32 × zg_S)) (x1 : Int32) (x2 : Int32) (x3 : Int32) (s : zg_S) (hrec6_ : ∀ (z0 : Int32) (z1 : Int32) (z2 : Int32) (s : zg_S), wr (W_X0_haulingByPay) σ0 s → zw (W_X0_haulingByPay) σ0 (rec6_ z0 z1 z2 s)) (hs : wr (W_X0_haulingByPay) σ0 s) : zw (W_X0_haulingByPay) σ0 (B_X0_haulingByPay_33 q0 rec6_ x1 x2 x3 s) := by
  unfold B_X0_haulingByPay_33
  exact hrec6_ x1 x2 (x3 + 1) s hs
theorem wB_X0_haulingByPay_6 (σ0 : zg_S) (q0 : Nat) (rec6_ : Int32 → Int32 → Int32 → zg_S → Option (Int32 × zg_S)) (x1 : Int32) (x2 : Int32) (x3 : Int32) (s : zg_S) (hrec6_ : ∀ (z0 : Int32) (z1 : Int32) (z2 : Int32) (s : zg_S), wr (W_X0_haulingByPay) σ0 s → zw (W_X0_haulingByPay) σ0 (rec6_ z0 z1 z2 s)) (hs : wr (W_X0_haulingByPay) σ0 s) : zw (W_X0_haulingByPay) σ0 (B_X0_haulingByPay_6 q0 rec6_ x1 x2 x3 s) := by
  unfold B_X0_haulingByPay_6
  refine zw_ite ?_ ?_
  · exact zw_some hs
  · refine zw_call (w_X0_hauledTo q0 x3 s) (fun p k h => False.elim h) hs (fun r6 σ7 hσ7 => ?_)
    refine zw_call (w_X0_payUnder q0 r6 σ7) (fun p k h => False.elim h) hσ7 (fun r13 σ14 hσ14 => ?_)
    refine zw_ite ?_ ?_
    · exact wB_X0_haulingByPay_33 σ0 q0 rec6_ x1 x2 x3 σ14 hrec6_ hσ14
    · exact wB_X0_haulingByPay_33 σ0 q0 rec6_ x3 r13 x3 σ14 hrec6_ hσ14
theorem wL_X0_haulingByPay_6 (σ0 : zg_S) (q0 : Nat) (n : Nat) (x1 : Int32) (x2 : Int32) (x3 : Int32) (s : zg_S) (hs : wr (W_X0_haulingByPay) σ0 s) : zw (W_X0_haulingByPay) σ0 (L_X0_haulingByPay_6 q0 n x1 x2 x3 s) := by
  unfold L_X0_haulingByPay_6
  exact zwf_III (fun r hr x1 x2 x3 t ht => wB_X0_haulingByPay_6 σ0 q0 r x1 x2 x3 t hr ht) n x1 x2 x3 s hs
theorem w_X0_haulingByPay (q0 : Nat) (σ0 : zg_S) : zw (W_X0_haulingByPay) σ0 (f_X0_haulingByPay q0 σ0) := by
  unfold f_X0_haulingByPay
  exact wL_X0_haulingByPay_6 σ0 q0 zfu 0 (-1) 0 σ0  wr.rf
theorem w_X0_hauling (q0 : Nat) (σ0 : zg_S) : zw (W_X0_hauling) σ0 (f_X0_hauling q0 σ0) := by
  unfold f_X0_hauling
  refine zw_ite ?_ ?_
  · refine zw_call (w_X0_haulingByLoss q0 σ0) (fun p k h => by unfold W_X0_haulingByLoss at h; unfold W_X0_hauling; omega) wr.rf (fun r3 σ4 hσ4 => ?_)
    exact zw_some hσ4
  · refine zw_ite ?_ ?_
    · refine zw_call (w_X0_haulingByPay q0 σ0) (fun p k h => False.elim h) wr.rf (fun r13 σ14 hσ14 => ?_)
      exact zw_some hσ14
    · exact zw_some wr.rf
theorem w_X0_open (q0 : Nat) (a1 : Int32) (a2 : Int32) (a3 : Int32) (σ0 : zg_S) : zw (W_X0_open q0) σ0 (f_X0_open q0 a1 a2 a3 σ0) := by
  unfold f_X0_open
  refine zw_ite ?_ ?_
  · refine zw_in (fun z1 => ?_)
    refine zw_up (by unfold W_X0_open; omega) wr.rf (fun σ8 hσ8 => ?_)
    refine zw_up (by unfold W_X0_open; omega) hσ8 (fun σ14 hσ14 => ?_)
    refine zw_up (by unfold W_X0_open; omega) hσ14 (fun σ20 hσ20 => ?_)
    refine zw_up (by unfold W_X0_open; omega) hσ20 (fun σ26 hσ26 => ?_)
    refine zw_up (by unfold W_X0_open; omega) hσ26 (fun σ32 hσ32 => ?_)
    exact zw_some hσ32
  · exact zw_some wr.rf
theorem wB_X0_passHour_79 (σ0 : zg_S) (q0 : Nat) (a1 : Int32) (rec11_ : Int32 → zg_S → Option (Int32 × zg_S)) (x2 : Int32) (s : zg_S) (hrec11_ : ∀ (z0 : Int32) (s : zg_S), wr (W_X0_passHour q0) σ0 s → zw (W_X0_passHour q0) σ0 (rec11_ z0 s)) (hs : wr (W_X0_passHour q0) σ0 s) : zw (W_X0_passHour q0) σ0 (B_X0_passHour_79 q0 a1 rec11_ x2 s) := by
  unfold B_X0_passHour_79
  exact hrec11_ (x2 + 1) s hs
theorem wB_X0_passHour_11 (σ0 : zg_S) (q0 : Nat) (a1 : Int32) (rec11_ : Int32 → zg_S → Option (Int32 × zg_S)) (x2 : Int32) (s : zg_S) (hrec11_ : ∀ (z0 : Int32) (s : zg_S), wr (W_X0_passHour q0) σ0 s → zw (W_X0_passHour q0) σ0 (rec11_ z0 s)) (hs : wr (W_X0_passHour q0) σ0 s) : zw (W_X0_passHour q0) σ0 (B_X0_passHour_11 q0 a1 rec11_ x2 s) := by
  unfold B_X0_passHour_11
  refine zw_ite ?_ ?_
  · refine zw_call (w_X0_blow q0 s) (fun p k h => by unfold W_X0_blow at h; unfold W_X0_passHour; omega) hs (fun r5 σ6 hσ6 => ?_)
    refine zw_up (by unfold W_X0_passHour; omega) hσ6 (fun σ12 hσ12 => ?_)
    exact zw_some hσ12
  · refine zw_in (fun z1 => ?_)
    refine zw_call (w_X0_lossOf q0 ((q0 + 1) + 2 + (Int32.toNatClampNeg x2)) s) (fun p k h => by unfold W_X0_lossOf at h; unfold W_X0_passHour; omega) hs (fun r24 σ25 hσ25 => ?_)
    refine zw_let (fun y33 => ?_)
    refine zw_up (by unfold W_X0_passHour; omega) hσ25 (fun σ36 hσ36 => ?_)
    refine zw_up (by unfold W_X0_passHour; omega) hσ36 (fun σ42 hσ42 => ?_)
    refine zw_call (w_X0_shades q0 (σ42 ((q0 + 1) + 2 + (Int32.toNatClampNeg x2)) 1) σ42) (fun p k h => False.elim h) hσ42 (fun r48 σ49 hσ49 => ?_)
    refine zw_ite ?_ ?_
    · exact wB_X0_passHour_79 σ0 q0 a1 rec11_ x2 σ49 hrec11_ hσ49
    · refine zw_let (fun y58 => ?_)
      refine zw_up (by unfold W_X0_passHour; omega) hσ49 (fun σ61 hσ61 => ?_)
      exact wB_X0_passHour_79 σ0 q0 a1 rec11_ x2 σ61 hrec11_ hσ61
theorem wL_X0_passHour_11 (σ0 : zg_S) (q0 : Nat) (a1 : Int32) (n : Nat) (x2 : Int32) (s : zg_S) (hs : wr (W_X0_passHour q0) σ0 s) : zw (W_X0_passHour q0) σ0 (L_X0_passHour_11 q0 a1 n x2 s) := by
  unfold L_X0_passHour_11
  exact zwf_I (fun r hr x2 t ht => wB_X0_passHour_11 σ0 q0 a1 r x2 t hr ht) n x2 s hs
theorem w_X0_passHour (q0 : Nat) (a1 : Int32) (σ0 : zg_S) : zw (W_X0_passHour q0) σ0 (f_X0_passHour q0 a1 σ0) := by
  unfold f_X0_passHour
  refine zw_call (w_X0_hauledTo q0 a1 σ0) (fun p k h => False.elim h) wr.rf (fun r67 σ68 hσ68 => ?_)
  refine zw_up (by unfold W_X0_passHour; omega) hσ68 (fun σ74 hσ74 => ?_)
  exact wL_X0_passHour_11 σ0 q0 a1 zfu 0 σ74  hσ74
theorem wB_X0_shadedSet_34 (σ0 : zg_S) (q0 : Nat) (rec4_ : Int32 → Int32 → zg_S → Option (Int32 × zg_S)) (x1 : Int32) (x2 : Int32) (s : zg_S) (hrec4_ : ∀ (z0 : Int32) (z1 : Int32) (s : zg_S), wr (W_X0_shadedSet) σ0 s → zw (W_X0_shadedSet) σ0 (rec4_ z0 z1 s)) (hs : wr (W_X0_shadedSet) σ0 s) : zw (W_X0_shadedSet) σ0 (B_X0_shadedSet_34 q0 rec4_ x1 x2 s) := by
  unfold B_X0_shadedSet_34
  exact hrec4_ x1 (x2 + 1) s hs
theorem wB_X0_shadedSet_4 (σ0 : zg_S) (q0 : Nat) (rec4_ : Int32 → Int32 → zg_S → Option (Int32 × zg_S)) (x1 : Int32) (x2 : Int32) (s : zg_S) (hrec4_ : ∀ (z0 : Int32) (z1 : Int32) (s : zg_S), wr (W_X0_shadedSet) σ0 s → zw (W_X0_shadedSet) σ0 (rec4_ z0 z1 s)) (hs : wr (W_X0_shadedSet) σ0 s) : zw (W_X0_shadedSet) σ0 (B_X0_shadedSet_4 q0 rec4_ x1 x2 s) := by
  unfold B_X0_shadedSet_4
  refine zw_ite ?_ ?_
  · exact zw_some hs
  · refine zw_in (fun z1 => ?_)
    refine zw_call (w_X0_shades q0 (s ((q0 + 1) + 2 + (Int32.toNatClampNeg x2)) 1) s) (fun p k h => False.elim h) hs (fun r9 σ10 hσ10 => ?_)
    refine zw_ite ?_ ?_
    · exact wB_X0_shadedSet_34 σ0 q0 rec4_ x1 x2 σ10 hrec4_ hσ10
    · exact wB_X0_shadedSet_34 σ0 q0 rec4_ (x1 ||| (1 <<< (x2 &&& 31))) x2 σ10 hrec4_ hσ10
theorem wL_X0_shadedSet_4 (σ0 : zg_S) (q0 : Nat) (n : Nat) (x1 : Int32) (x2 : Int32) (s : zg_S) (hs : wr (W_X0_shadedSet) σ0 s) : zw (W_X0_shadedSet) σ0 (L_X0_shadedSet_4 q0 n x1 x2 s) := by
  unfold L_X0_shadedSet_4
  exact zwf_II (fun r hr x1 x2 t ht => wB_X0_shadedSet_4 σ0 q0 r x1 x2 t hr ht) n x1 x2 s hs
theorem w_X0_shadedSet (q0 : Nat) (σ0 : zg_S) : zw (W_X0_shadedSet) σ0 (f_X0_shadedSet q0 σ0) := by
  unfold f_X0_shadedSet
  exact wL_X0_shadedSet_4 σ0 q0 zfu 0 0 σ0  wr.rf
theorem w_X4_takeOver (q0 : Nat) (q1 : Nat) (σ0 : zg_S) : zw (W_X4_takeOver q0) σ0 (f_X4_takeOver q0 q1 σ0) := by
  unfold f_X4_takeOver
  refine zw_up (by unfold W_X4_takeOver; omega) wr.rf (fun σ1 hσ1 => ?_)
  refine zw_up (by unfold W_X4_takeOver; omega) hσ1 (fun σ7 hσ7 => ?_)
  refine zw_up (by unfold W_X4_takeOver; omega) hσ7 (fun σ13 hσ13 => ?_)
  refine zw_up (by unfold W_X4_takeOver; omega) hσ13 (fun σ19 hσ19 => ?_)
  exact zw_some hσ19
theorem wB_X0_takeOver_49 (σ0 : zg_S) (q0 : Nat) (q1 : Nat) (rec49_ : Int32 → zg_S → Option (Int32 × zg_S)) (x2 : Int32) (s : zg_S) (hrec49_ : ∀ (z0 : Int32) (s : zg_S), wr (W_X0_takeOver q0) σ0 s → zw (W_X0_takeOver q0) σ0 (rec49_ z0 s)) (hs : wr (W_X0_takeOver q0) σ0 s) : zw (W_X0_takeOver q0) σ0 (B_X0_takeOver_49 q0 q1 rec49_ x2 s) := by
  unfold B_X0_takeOver_49
  refine zw_ite ?_ ?_
  · refine zw_up (by unfold W_X0_takeOver; omega) hs (fun σ3 hσ3 => ?_)
    refine zw_up (by unfold W_X0_takeOver; omega) hσ3 (fun σ9 hσ9 => ?_)
    refine zw_up (by unfold W_X0_takeOver; omega) hσ9 (fun σ15 hσ15 => ?_)
    refine zw_up (by unfold W_X0_takeOver; omega) hσ15 (fun σ21 hσ21 => ?_)
    refine zw_up (by unfold W_X0_takeOver; omega) hσ21 (fun σ27 hσ27 => ?_)
    refine zw_up (by unfold W_X0_takeOver; omega) hσ27 (fun σ33 hσ33 => ?_)
    refine zw_up (by unfold W_X0_takeOver; omega) hσ33 (fun σ39 hσ39 => ?_)
    refine zw_up (by unfold W_X0_takeOver; omega) hσ39 (fun σ45 hσ45 => ?_)
    refine zw_up (by unfold W_X0_takeOver; omega) hσ45 (fun σ51 hσ51 => ?_)
    exact zw_some hσ51
  · refine zw_in (fun z1 => ?_)
    refine zw_let (fun y61 => ?_)
    refine zw_up (by unfold W_X0_takeOver; omega) hs (fun σ64 hσ64 => ?_)
    exact hrec49_ (x2 + 1) σ64 hσ64
theorem wL_X0_takeOver_49 (σ0 : zg_S) (q0 : Nat) (q1 : Nat) (n : Nat) (x2 : Int32) (s : zg_S) (hs : wr (W_X0_takeOver q0) σ0 s) : zw (W_X0_takeOver q0) σ0 (L_X0_takeOver_49 q0 q1 n x2 s) := by
  unfold L_X0_takeOver_49
  exact zwf_I (fun r hr x2 t ht => wB_X0_takeOver_49 σ0 q0 q1 r x2 t hr ht) n x2 s hs
theorem wB_X0_takeOver_10 (σ0 : zg_S) (q0 : Nat) (q1 : Nat) (rec10_ : Int32 → zg_S → Option (Int32 × zg_S)) (x2 : Int32) (s : zg_S) (hrec10_ : ∀ (z0 : Int32) (s : zg_S), wr (W_X0_takeOver q0) σ0 s → zw (W_X0_takeOver q0) σ0 (rec10_ z0 s)) (hs : wr (W_X0_takeOver q0) σ0 s) : zw (W_X0_takeOver q0) σ0 (B_X0_takeOver_10 q0 q1 rec10_ x2 s) := by
  unfold B_X0_takeOver_10
  refine zw_ite ?_ ?_
  · refine zw_up (by unfold W_X0_takeOver; omega) hs (fun σ74 hσ74 => ?_)
    exact wL_X0_takeOver_49 σ0 q0 q1 zfu 0 σ74  hσ74
  · refine zw_in (fun z1 => ?_)
    refine zw_call (w_X4_takeOver ((q0 + 1) + 2 + (Int32.toNatClampNeg x2)) ((q1 + 1) + 2 + (Int32.toNatClampNeg x2)) s) (fun p k h => by unfold W_X4_takeOver at h; unfold W_X0_takeOver; omega) hs (fun r86 σ87 hσ87 => ?_)
    exact hrec10_ (x2 + 1) σ87 hσ87
theorem wL_X0_takeOver_10 (σ0 : zg_S) (q0 : Nat) (q1 : Nat) (n : Nat) (x2 : Int32) (s : zg_S) (hs : wr (W_X0_takeOver q0) σ0 s) : zw (W_X0_takeOver q0) σ0 (L_X0_takeOver_10 q0 q1 n x2 s) := by
  unfold L_X0_takeOver_10
  exact zwf_I (fun r hr x2 t ht => wB_X0_takeOver_10 σ0 q0 q1 r x2 t hr ht) n x2 s hs
theorem w_X0_takeOver (q0 : Nat) (q1 : Nat) (σ0 : zg_S) : zw (W_X0_takeOver q0) σ0 (f_X0_takeOver q0 q1 σ0) := by
  unfold f_X0_takeOver
  refine zw_up (by unfold W_X0_takeOver; omega) wr.rf (fun σ95 hσ95 => ?_)
  exact wL_X0_takeOver_10 σ0 q0 q1 zfu 0 σ95  hσ95
theorem w_X0_widen (q0 : Nat) (a1 : Int32) (σ0 : zg_S) : zw (W_X0_widen q0) σ0 (f_X0_widen q0 a1 σ0) := by
  unfold f_X0_widen
  refine zw_up (by unfold W_X0_widen; omega) wr.rf (fun σ1 hσ1 => ?_)
  refine zw_call (w_X0_lastFirst q0 σ1) (fun p k h => False.elim h) hσ1 (fun r7 σ8 hσ8 => ?_)
  refine zw_call (w_X6_held (σ1 q0 6) 0 r7 σ8) (fun p k h => False.elim h) hσ8 (fun r14 σ15 hσ15 => ?_)
  refine zw_up (by unfold W_X0_widen; omega) hσ15 (fun σ21 hσ21 => ?_)
  exact zw_some hσ21
theorem wB_X1_sortAt_35 (σ0 : zg_S) (a1 : Int32) (x2 : Int32) (s : zg_S) (hs : wr (W_X1_sortAt) σ0 s) : zw (W_X1_sortAt) σ0 (B_X1_sortAt_35 a1 x2 s) := by
  unfold B_X1_sortAt_35
  refine zw_ite ?_ ?_
  · exact zw_some hs
  · refine zw_ite ?_ ?_
    · exact zw_some hs
    · exact zw_some hs
theorem w_X1_sortAt (a1 : Int32) (σ0 : zg_S) : zw (W_X1_sortAt) σ0 (f_X1_sortAt a1 σ0) := by
  unfold f_X1_sortAt
  refine zw_ite ?_ ?_
  · exact zw_some wr.rf
  · refine zw_ite ?_ ?_
    · refine zw_in (fun z1 => ?_)
      refine zw_ite ?_ ?_
      · exact wB_X1_sortAt_35 σ0 a1 (σ0 6 (Int32.toNatClampNeg a1)) σ0  wr.rf
      · refine zw_ite ?_ ?_
        · exact wB_X1_sortAt_35 σ0 a1 (σ0 6 (Int32.toNatClampNeg a1)) σ0  wr.rf
        · exact zw_some wr.rf
    · exact zw_some wr.rf
theorem wB_X1_advance_221 (σ0 : zg_S)  (s : zg_S) (hs : wr (W_X1_advance) σ0 s) : zw (W_X1_advance) σ0 (B_X1_advance_221  s) := by
  unfold B_X1_advance_221
  refine zw_up (by unfold W_X1_advance; omega) hs (fun σ1 hσ1 => ?_)
  exact zw_some hσ1
theorem wB_X1_advance_210 (σ0 : zg_S) (x3 : Int32) (y0 : Int32) (s : zg_S) (hs : wr (W_X1_advance) σ0 s) : zw (W_X1_advance) σ0 (B_X1_advance_210 x3 y0 s) := by
  unfold B_X1_advance_210
  refine zw_ite ?_ ?_
  · refine zw_ite ?_ ?_
    · exact zw_some hs
    · exact wB_X1_advance_221 σ0  s  hs
  · exact wB_X1_advance_221 σ0  s  hs
theorem wB_X1_advance_209 (σ0 : zg_S) (x3 : Int32) (s : zg_S) (hs : wr (W_X1_advance) σ0 s) : zw (W_X1_advance) σ0 (B_X1_advance_209 x3 s) := by
  unfold B_X1_advance_209
  exact wB_X1_advance_210 σ0 x3 0 s  hs
theorem wB_X1_advance_183 (σ0 : zg_S) (y0 : Int32) (s : zg_S) (hs : wr (W_X1_advance) σ0 s) : zw (W_X1_advance) σ0 (B_X1_advance_183 y0 s) := by
  unfold B_X1_advance_183
  refine zw_ite ?_ ?_
  · refine zw_ite ?_ ?_
    · exact wB_X1_advance_209 σ0 y0 s  hs
    · exact wB_X1_advance_210 σ0 y0 1 s  hs
  · exact wB_X1_advance_209 σ0 y0 s  hs
theorem wB_X1_advance_182 (σ0 : zg_S)  (s : zg_S) (hs : wr (W_X1_advance) σ0 s) : zw (W_X1_advance) σ0 (B_X1_advance_182  s) := by
  unfold B_X1_advance_182
  exact wB_X1_advance_183 σ0 0 s  hs
theorem wB_X1_advance_158 (σ0 : zg_S) (x1 : Int32) (x2 : Int32) (s : zg_S) (hs : wr (W_X1_advance) σ0 s) : zw (W_X1_advance) σ0 (B_X1_advance_158 x1 x2 s) := by
  unfold B_X1_advance_158
  refine zw_ite ?_ ?_
  · exact wB_X1_advance_182 σ0  s  hs
  · refine zw_ite ?_ ?_
    · exact wB_X1_advance_182 σ0  s  hs
    · refine zw_ite ?_ ?_
      · exact wB_X1_advance_183 σ0 1 s  hs
      · exact wB_X1_advance_182 σ0  s  hs
theorem wB_X1_advance_111 (σ0 : zg_S) (rec111_ : Int32 → Int32 → zg_S → Option (Int32 × zg_S)) (x1 : Int32) (x2 : Int32) (s : zg_S) (hrec111_ : ∀ (z0 : Int32) (z1 : Int32) (s : zg_S), wr (W_X1_advance) σ0 s → zw (W_X1_advance) σ0 (rec111_ z0 z1 s)) (hs : wr (W_X1_advance) σ0 s) : zw (W_X1_advance) σ0 (B_X1_advance_111 rec111_ x1 x2 s) := by
  unfold B_X1_advance_111
  refine zw_ite ?_ ?_
  · exact wB_X1_advance_158 σ0 x1 x2 s  hs
  · refine zw_ite ?_ ?_
    · exact wB_X1_advance_158 σ0 x1 x2 s  hs
    · refine zw_call (w_X1_sortAt (s 7 5) s) (fun p k h => False.elim h) hs (fun r38 σ39 hσ39 => ?_)
      refine zw_ite ?_ ?_
      · refine zw_up (by unfold W_X1_advance; omega) hσ39 (fun σ48 hσ48 => ?_)
        exact hrec111_ x1 x2 σ48 hσ48
      · exact wB_X1_advance_158 σ0 x1 x2 σ39  hσ39
theorem wL_X1_advance_111 (σ0 : zg_S)  (n : Nat) (x1 : Int32) (x2 : Int32) (s : zg_S) (hs : wr (W_X1_advance) σ0 s) : zw (W_X1_advance) σ0 (L_X1_advance_111  n x1 x2 s) := by
  unfold L_X1_advance_111
  exact zwf_II (fun r hr x1 x2 t ht => wB_X1_advance_111 σ0  r x1 x2 t hr ht) n x1 x2 s hs
theorem wB_X1_advance_73 (σ0 : zg_S) (x1 : Int32) (x2 : Int32) (s : zg_S) (hs : wr (W_X1_advance) σ0 s) : zw (W_X1_advance) σ0 (B_X1_advance_73 x1 x2 s) := by
  unfold B_X1_advance_73
  refine zw_up (by unfold W_X1_advance; omega) hs (fun σ54 hσ54 => ?_)
  refine zw_call (w_X1_sortAt (σ54 7 4) σ54) (fun p k h => False.elim h) hσ54 (fun r60 σ61 hσ61 => ?_)
  refine zw_up (by unfold W_X1_advance; omega) hσ61 (fun σ67 hσ67 => ?_)
  refine zw_ite ?_ ?_
  · exact zw_some hσ67
  · refine zw_up (by unfold W_X1_advance; omega) hσ67 (fun σ75 hσ75 => ?_)
    exact wL_X1_advance_111 σ0 zfu x1 x2 σ75  hσ75
theorem wB_X1_advance_35 (σ0 : zg_S) (rec35_ : Int32 → Int32 → zg_S → Option (Int32 × zg_S)) (x1 : Int32) (x2 : Int32) (s : zg_S) (hrec35_ : ∀ (z0 : Int32) (z1 : Int32) (s : zg_S), wr (W_X1_advance) σ0 s → zw (W_X1_advance) σ0 (rec35_ z0 z1 s)) (hs : wr (W_X1_advance) σ0 s) : zw (W_X1_advance) σ0 (B_X1_advance_35 rec35_ x1 x2 s) := by
  unfold B_X1_advance_35
  refine zw_ite ?_ ?_
  · exact wB_X1_advance_73 σ0 x1 x2 s  hs
  · refine zw_in (fun z1 => ?_)
    refine zw_ite ?_ ?_
    · refine zw_up (by unfold W_X1_advance; omega) hs (fun σ91 hσ91 => ?_)
      exact hrec35_ x1 x2 σ91 hσ91
    · exact wB_X1_advance_73 σ0 x1 x2 s  hs
theorem wL_X1_advance_35 (σ0 : zg_S)  (n : Nat) (x1 : Int32) (x2 : Int32) (s : zg_S) (hs : wr (W_X1_advance) σ0 s) : zw (W_X1_advance) σ0 (L_X1_advance_35  n x1 x2 s) := by
  unfold L_X1_advance_35
  exact zwf_II (fun r hr x1 x2 t ht => wB_X1_advance_35 σ0  r x1 x2 t hr ht) n x1 x2 s hs
theorem wB_X1_advance_21 (σ0 : zg_S) (y0 : Int32) (s : zg_S) (hs : wr (W_X1_advance) σ0 s) : zw (W_X1_advance) σ0 (B_X1_advance_21 y0 s) := by
  unfold B_X1_advance_21
  refine zw_up (by unfold W_X1_advance; omega) hs (fun σ101 hσ101 => ?_)
  exact wL_X1_advance_35 σ0 zfu y0 (s 7 5) σ101  hσ101
theorem wB_X1_advance_16 (σ0 : zg_S)  (s : zg_S) (hs : wr (W_X1_advance) σ0 s) : zw (W_X1_advance) σ0 (B_X1_advance_16  s) := by
  unfold B_X1_advance_16
  exact wB_X1_advance_21 σ0 1 s  hs
theorem w_X1_advance  (σ0 : zg_S) : zw (W_X1_advance) σ0 (f_X1_advance  σ0) := by
  unfold f_X1_advance
  refine zw_ite ?_ ?_
  · exact wB_X1_advance_16 σ0  σ0  wr.rf
  · refine zw_ite ?_ ?_
    · exact wB_X1_advance_16 σ0  σ0  wr.rf
    · exact wB_X1_advance_21 σ0 0 σ0  wr.rf
theorem wB_X1_isWord_28 (σ0 : zg_S) (q1 : Nat) (rec28_ : Int32 → zg_S → Option (Int32 × zg_S)) (x2 : Int32) (s : zg_S) (hrec28_ : ∀ (z0 : Int32) (s : zg_S), wr (W_X1_isWord) σ0 s → zw (W_X1_isWord) σ0 (rec28_ z0 s)) (hs : wr (W_X1_isWord) σ0 s) : zw (W_X1_isWord) σ0 (B_X1_isWord_28 q1 rec28_ x2 s) := by
  unfold B_X1_isWord_28
  refine zw_call (w_J0_length_8abf5 q1 s) (fun p k h => False.elim h) hs (fun r1 σ2 hσ2 => ?_)
  refine zw_ite ?_ ?_
  · exact zw_some hσ2
  · refine zw_call (w_X1_sortAt ((σ2 7 4) + x2) σ2) (fun p k h => False.elim h) hσ2 (fun r11 σ12 hσ12 => ?_)
    refine zw_ite ?_ ?_
    · refine zw_in (fun z1 => ?_)
      refine zw_call (w_J0_charAt_5068e q1 x2 σ12) (fun p k h => False.elim h) hσ12 (fun r24 σ25 hσ25 => ?_)
      refine zw_ite ?_ ?_
      · exact hrec28_ (x2 + 1) σ25 hσ25
      · exact zw_some hσ25
    · exact zw_some hσ12
theorem wL_X1_isWord_28 (σ0 : zg_S) (q1 : Nat) (n : Nat) (x2 : Int32) (s : zg_S) (hs : wr (W_X1_isWord) σ0 s) : zw (W_X1_isWord) σ0 (L_X1_isWord_28 q1 n x2 s) := by
  unfold L_X1_isWord_28
  exact zwf_I (fun r hr x2 t ht => wB_X1_isWord_28 σ0 q1 r x2 t hr ht) n x2 s hs
theorem w_X1_isWord (q1 : Nat) (σ0 : zg_S) : zw (W_X1_isWord) σ0 (f_X1_isWord q1 σ0) := by
  unfold f_X1_isWord
  refine zw_ite ?_ ?_
  · refine zw_call (w_J0_length_8abf5 q1 σ0) (fun p k h => False.elim h) wr.rf (fun r39 σ40 hσ40 => ?_)
    refine zw_ite ?_ ?_
    · exact wL_X1_isWord_28 σ0 q1 zfu 0 σ40  hσ40
    · exact zw_some hσ40
  · exact zw_some wr.rf
theorem w_X1_keyHere  (σ0 : zg_S) : zw (W_X1_keyHere) σ0 (f_X1_keyHere  σ0) := by
  unfold f_X1_keyHere
  refine zw_call (w_X1_isWord 0 σ0) (fun p k h => False.elim h) wr.rf (fun r1 σ2 hσ2 => ?_)
  refine zw_ite ?_ ?_
  · refine zw_call (w_X1_isWord 1 σ2) (fun p k h => False.elim h) hσ2 (fun r10 σ11 hσ11 => ?_)
    refine zw_ite ?_ ?_
    · refine zw_call (w_X1_isWord 2 σ11) (fun p k h => False.elim h) hσ11 (fun r19 σ20 hσ20 => ?_)
      refine zw_ite ?_ ?_
      · exact zw_some hσ20
      · exact zw_some hσ20
    · exact zw_some hσ11
  · exact zw_some hσ2
theorem w_X1_levelOf (a0 : Int32) (σ0 : zg_S) : zw (W_X1_levelOf) σ0 (f_X1_levelOf a0 σ0) := by
  unfold f_X1_levelOf
  refine zw_ite ?_ ?_
  · exact zw_some wr.rf
  · refine zw_ite ?_ ?_
    · exact zw_some wr.rf
    · refine zw_ite ?_ ?_
      · exact zw_some wr.rf
      · refine zw_ite ?_ ?_
        · exact zw_some wr.rf
        · refine zw_ite ?_ ?_
          · exact zw_some wr.rf
          · refine zw_ite ?_ ?_
            · exact zw_some wr.rf
            · refine zw_ite ?_ ?_
              · exact zw_some wr.rf
              · refine zw_ite ?_ ?_
                · exact zw_some wr.rf
                · refine zw_ite ?_ ?_
                  · exact zw_some wr.rf
                  · exact zw_some wr.rf
theorem w_X5_addStep (q0 : Nat) (a1 : Int32) (σ0 : zg_S) : zw (W_X5_addStep q0) σ0 (f_X5_addStep q0 a1 σ0) := by
  unfold f_X5_addStep
  refine zw_ite ?_ ?_
  · exact zw_some wr.rf
  · refine zw_in (fun z1 => ?_)
    refine zw_up (by unfold W_X5_addStep; omega) wr.rf (fun σ7 hσ7 => ?_)
    refine zw_up (by unfold W_X5_addStep; omega) hσ7 (fun σ13 hσ13 => ?_)
    exact zw_some hσ13
theorem w_X5_addLeaf (q0 : Nat) (a1 : Int32) (σ0 : zg_S) : zw (W_X5_addLeaf q0) σ0 (f_X5_addLeaf q0 a1 σ0) := by
  unfold f_X5_addLeaf
  refine zw_up (by unfold W_X5_addLeaf; omega) wr.rf (fun σ1 hσ1 => ?_)
  refine zw_call (w_X5_addStep q0 a1 σ1) (fun p k h => by unfold W_X5_addStep at h; unfold W_X5_addLeaf; omega) hσ1 (fun r7 σ8 hσ8 => ?_)
  exact zw_some hσ8
theorem wB_X1_readNumber_44 (σ0 : zg_S) (x1 : Int32) (s : zg_S) (hs : wr (W_X1_readNumber) σ0 s) : zw (W_X1_readNumber) σ0 (B_X1_readNumber_44 x1 s) := by
  unfold B_X1_readNumber_44
  refine zw_call (w_X5_addLeaf 8 x1 s) (fun p k h => by unfold W_X5_addLeaf at h; unfold W_X1_readNumber; omega) hs (fun r1 σ2 hσ2 => ?_)
  refine zw_call (w_X1_advance σ2) (fun p k h => by unfold W_X1_advance at h; unfold W_X1_readNumber; omega) hσ2 (fun r8 σ9 hσ9 => ?_)
  exact zw_some hσ9
theorem wB_X1_readNumber_7 (σ0 : zg_S) (rec7_ : Int32 → Int32 → zg_S → Option (Int32 × zg_S)) (x1 : Int32) (x2 : Int32) (s : zg_S) (hrec7_ : ∀ (z0 : Int32) (z1 : Int32) (s : zg_S), wr (W_X1_readNumber) σ0 s → zw (W_X1_readNumber) σ0 (rec7_ z0 z1 s)) (hs : wr (W_X1_readNumber) σ0 s) : zw (W_X1_readNumber) σ0 (B_X1_readNumber_7 rec7_ x1 x2 s) := by
  unfold B_X1_readNumber_7
  refine zw_ite ?_ ?_
  · exact wB_X1_readNumber_44 σ0 x1 s  hs
  · refine zw_ite ?_ ?_
    · exact wB_X1_readNumber_44 σ0 x1 s  hs
    · refine zw_in (fun z1 => ?_)
      refine zw_let (fun y24 => ?_)
      exact hrec7_ y24 (x2 + 1) s hs
theorem wL_X1_readNumber_7 (σ0 : zg_S)  (n : Nat) (x1 : Int32) (x2 : Int32) (s : zg_S) (hs : wr (W_X1_readNumber) σ0 s) : zw (W_X1_readNumber) σ0 (L_X1_readNumber_7  n x1 x2 s) := by
  unfold L_X1_readNumber_7
  exact zwf_II (fun r hr x1 x2 t ht => wB_X1_readNumber_7 σ0  r x1 x2 t hr ht) n x1 x2 s hs
theorem w_X1_readNumber  (σ0 : zg_S) : zw (W_X1_readNumber) σ0 (f_X1_readNumber  σ0) := by
  unfold f_X1_readNumber
  exact wL_X1_readNumber_7 σ0 zfu 0 (σ0 7 4) σ0  wr.rf
theorem wB_X1_readName_51 (σ0 : zg_S) (y0 : Int32) (s : zg_S) (hs : wr (W_X1_readName) σ0 s) : zw (W_X1_readName) σ0 (B_X1_readName_51 y0 s) := by
  unfold B_X1_readName_51
  refine zw_ite ?_ ?_
  · refine zw_call (w_X5_addLeaf 8 ((-1) - y0) s) (fun p k h => by unfold W_X5_addLeaf at h; unfold W_X1_readName; omega) hs (fun r5 σ6 hσ6 => ?_)
    refine zw_call (w_X1_advance σ6) (fun p k h => by unfold W_X1_advance at h; unfold W_X1_readName; omega) hσ6 (fun r12 σ13 hσ13 => ?_)
    exact zw_some hσ13
  · exact zw_some hs
theorem wB_X1_readName_50 (σ0 : zg_S)  (s : zg_S) (hs : wr (W_X1_readName) σ0 s) : zw (W_X1_readName) σ0 (B_X1_readName_50  s) := by
  unfold B_X1_readName_50
  exact wB_X1_readName_51 σ0 (-1) s  hs
theorem w_X1_readName  (σ0 : zg_S) : zw (W_X1_readName) σ0 (f_X1_readName  σ0) := by
  unfold f_X1_readName
  refine zw_ite ?_ ?_
  · refine zw_ite ?_ ?_
    · exact wB_X1_readName_50 σ0  σ0  wr.rf
    · refine zw_in (fun z1 => ?_)
      refine zw_call (w_J0_indexOf_0f7a4 (zg_nm (σ0 8 0)) ((Int32.toUInt32 (σ0 6 (Int32.toNatClampNeg (σ0 7 4))) % 65536).toInt32) σ0) (fun p k h => False.elim h) wr.rf (fun r32 σ33 hσ33 => ?_)
      exact wB_X1_readName_51 σ0 r32 σ33  hσ33
  · exact wB_X1_readName_50 σ0  σ0  wr.rf
theorem w_X1_signHere  (σ0 : zg_S) : zw (W_X1_signHere) σ0 (f_X1_signHere  σ0) := by
  unfold f_X1_signHere
  refine zw_ite ?_ ?_
  · refine zw_call (w_X6_within (σ0 7 4) 0 95 σ0) (fun p k h => False.elim h) wr.rf (fun r4 σ5 hσ5 => ?_)
    refine zw_ite ?_ ?_
    · exact zw_some hσ5
    · refine zw_in (fun z1 => ?_)
      exact zw_some hσ5
  · exact zw_some wr.rf
theorem wB_X1_readLevel_24 (σ0 : zg_S) (rec : Nat → Int32 → zg_S → Option (Int32 × zg_S)) (a1 : Int32) (rec24_ : Int32 → zg_S → Option (Int32 × zg_S)) (x2 : Int32) (s : zg_S) (hrec : ∀ (z0 : Nat) (z1 : Int32) (s : zg_S), wr (W_G_rd) σ0 s → zw (W_G_rd) σ0 (rec z0 z1 s)) (hrec24_ : ∀ (z0 : Int32) (s : zg_S), wr (W_G_rd) σ0 s → zw (W_G_rd) σ0 (rec24_ z0 s)) (hs : wr (W_G_rd) σ0 s) : zw (W_G_rd) σ0 (B_X1_readLevel_24 rec a1 rec24_ x2 s) := by
  unfold B_X1_readLevel_24
  refine zw_ite ?_ ?_
  · exact zw_some hs
  · refine zw_call (w_X1_signHere s) (fun p k h => False.elim h) hs (fun r4 σ5 hσ5 => ?_)
    refine zw_call (w_X1_levelOf r4 σ5) (fun p k h => False.elim h) hσ5 (fun r13 σ14 hσ14 => ?_)
    refine zw_ite ?_ ?_
    · refine zw_call (w_X1_advance σ14) (fun p k h => by unfold W_X1_advance at h; unfold W_G_rd; omega) hσ14 (fun r22 σ23 hσ23 => ?_)
      refine zw_rec (hrec 0 (a1 + 1) σ23 hσ23) (fun r29 σ30 hσ30 => ?_)
      refine zw_ite ?_ ?_
      · exact zw_some hσ30
      · refine zw_call (w_X5_addStep 8 ((-1000) - r4) σ30) (fun p k h => by unfold W_X5_addStep at h; unfold W_G_rd; omega) hσ30 (fun r38 σ39 hσ39 => ?_)
        refine zw_ite ?_ ?_
        · exact zw_some hσ39
        · exact hrec24_ (x2 + 1) σ39 hσ39
    · exact zw_some hσ14
theorem wL_X1_readLevel_24 (σ0 : zg_S) (rec : Nat → Int32 → zg_S → Option (Int32 × zg_S)) (a1 : Int32) (n : Nat) (x2 : Int32) (s : zg_S) (hrec : ∀ (z0 : Nat) (z1 : Int32) (s : zg_S), wr (W_G_rd) σ0 s → zw (W_G_rd) σ0 (rec z0 z1 s)) (hs : wr (W_G_rd) σ0 s) : zw (W_G_rd) σ0 (L_X1_readLevel_24 rec a1 n x2 s) := by
  unfold L_X1_readLevel_24
  exact zwf_I (fun r hr x2 t ht => wB_X1_readLevel_24 σ0 rec a1 r x2 t hrec hr ht) n x2 s hs
theorem w_X1_readLevel (σ0 : zg_S) (rec : Nat → Int32 → zg_S → Option (Int32 × zg_S)) (a1 : Int32) (s : zg_S) (hrec : ∀ (z0 : Nat) (z1 : Int32) (s : zg_S), wr (W_G_rd) σ0 s → zw (W_G_rd) σ0 (rec z0 z1 s)) (hs : wr (W_G_rd) σ0 s) : zw (W_G_rd) σ0 (f_X1_readLevel rec a1 s) := by
  unfold f_X1_readLevel
  refine zw_ite ?_ ?_
  · refine zw_rec (hrec 0 (a1 + 1) s hs) (fun r54 σ55 hσ55 => ?_)
    refine zw_ite ?_ ?_
    · exact zw_some hσ55
    · exact wL_X1_readLevel_24 σ0 rec a1 zfu 0 σ55 hrec hσ55
  · refine zw_rec (hrec 1 0 s hs) (fun r67 σ68 hσ68 => ?_)
    refine zw_ite ?_ zw_none
    exact zw_some hσ68
theorem w_X1_readPiece (σ0 : zg_S) (rec : Nat → Int32 → zg_S → Option (Int32 × zg_S)) (s : zg_S) (hrec : ∀ (z0 : Nat) (z1 : Int32) (s : zg_S), wr (W_G_rd) σ0 s → zw (W_G_rd) σ0 (rec z0 z1 s)) (hs : wr (W_G_rd) σ0 s) : zw (W_G_rd) σ0 (f_X1_readPiece rec s) := by
  unfold f_X1_readPiece
  refine zw_ite ?_ ?_
  · refine zw_call (w_X1_readName s) (fun p k h => by unfold W_X1_readName at h; unfold W_G_rd; omega) hs (fun r3 σ4 hσ4 => ?_)
    refine zw_ite ?_ zw_none
    exact zw_some hσ4
  · refine zw_ite ?_ ?_
    · refine zw_call (w_X1_readNumber s) (fun p k h => by unfold W_X1_readNumber at h; unfold W_G_rd; omega) hs (fun r15 σ16 hσ16 => ?_)
      refine zw_ite ?_ zw_none
      exact zw_some hσ16
    · refine zw_call (w_X1_signHere s) (fun p k h => False.elim h) hs (fun r27 σ28 hσ28 => ?_)
      refine zw_ite ?_ ?_
      · refine zw_rec (hrec 2 0 σ28 hσ28) (fun r36 σ37 hσ37 => ?_)
        refine zw_ite ?_ zw_none
        exact zw_some hσ37
      · refine zw_ite ?_ ?_
        · refine zw_rec (hrec 3 0 σ28 hσ28) (fun r48 σ49 hσ49 => ?_)
          refine zw_ite ?_ zw_none
          exact zw_some hσ49
        · exact zw_some hσ28
theorem w_X1_readNot (σ0 : zg_S) (rec : Nat → Int32 → zg_S → Option (Int32 × zg_S)) (s : zg_S) (hrec : ∀ (z0 : Nat) (z1 : Int32) (s : zg_S), wr (W_G_rd) σ0 s → zw (W_G_rd) σ0 (rec z0 z1 s)) (hs : wr (W_G_rd) σ0 s) : zw (W_G_rd) σ0 (f_X1_readNot rec s) := by
  unfold f_X1_readNot
  refine zw_ite ?_ ?_
  · refine zw_up (by unfold W_G_rd; omega) hs (fun σ3 hσ3 => ?_)
    refine zw_call (w_X1_advance σ3) (fun p k h => by unfold W_X1_advance at h; unfold W_G_rd; omega) hσ3 (fun r9 σ10 hσ10 => ?_)
    refine zw_rec (hrec 1 0 σ10 hσ10) (fun r16 σ17 hσ17 => ?_)
    refine zw_ite ?_ ?_
    · exact zw_some hσ17
    · refine zw_up (by unfold W_G_rd; omega) hσ17 (fun σ25 hσ25 => ?_)
      refine zw_call (w_X5_addStep 8 (-1033) σ25) (fun p k h => by unfold W_X5_addStep at h; unfold W_G_rd; omega) hσ25 (fun r31 σ32 hσ32 => ?_)
      exact zw_some hσ32
  · exact zw_some hs
theorem w_X1_readBracket (σ0 : zg_S) (rec : Nat → Int32 → zg_S → Option (Int32 × zg_S)) (s : zg_S) (hrec : ∀ (z0 : Nat) (z1 : Int32) (s : zg_S), wr (W_G_rd) σ0 s → zw (W_G_rd) σ0 (rec z0 z1 s)) (hs : wr (W_G_rd) σ0 s) : zw (W_G_rd) σ0 (f_X1_readBracket rec s) := by
  unfold f_X1_readBracket
  refine zw_ite ?_ ?_
  · refine zw_up (by unfold W_G_rd; omega) hs (fun σ3 hσ3 => ?_)
    refine zw_call (w_X1_advance σ3) (fun p k h => by unfold W_X1_advance at h; unfold W_G_rd; omega) hσ3 (fun r9 σ10 hσ10 => ?_)
    refine zw_rec (hrec 0 0 σ10 hσ10) (fun r16 σ17 hσ17 => ?_)
    refine zw_ite ?_ ?_
    · exact zw_some hσ17
    · refine zw_call (w_X1_signHere σ17) (fun p k h => False.elim h) hσ17 (fun r26 σ27 hσ27 => ?_)
      refine zw_ite ?_ ?_
      · refine zw_up (by unfold W_G_rd; omega) hσ27 (fun σ35 hσ35 => ?_)
        refine zw_call (w_X1_advance σ35) (fun p k h => by unfold W_X1_advance at h; unfold W_G_rd; omega) hσ35 (fun r41 σ42 hσ42 => ?_)
        exact zw_some hσ42
      · exact zw_some hσ27
  · exact zw_some hs
theorem wG_rd (σ0 : zg_S) : ∀ (d tag : Nat) (z0 : Int32) (s : zg_S), wr W_G_rd σ0 s → zw W_G_rd σ0 (G_rd d tag z0 s) := by
  intro d
  induction d with
  | zero => intro tag z0 s _; exact zw_none
  | succ d ih =>
    intro tag z0 s hs
    match tag with
    | 0 => exact w_X1_readLevel σ0 (G_rd d) z0 s ih hs
    | 1 => exact w_X1_readPiece σ0 (G_rd d)  s ih hs
    | 2 => exact w_X1_readNot σ0 (G_rd d)  s ih hs
    | n + 3 => exact w_X1_readBracket σ0 (G_rd d)  s ih hs
theorem w_G_rd (d tag : Nat) (z0 : Int32) (σ0 : zg_S) : zw W_G_rd σ0 (G_rd d tag z0 σ0) := wG_rd σ0 d tag z0 σ0 wr.rf
theorem w_X5_begin (q0 : Nat) (a1 : Int32) (σ0 : zg_S) : zw (W_X5_begin q0) σ0 (f_X5_begin q0 a1 σ0) := by
  unfold f_X5_begin
  refine zw_up (by unfold W_X5_begin; omega) wr.rf (fun σ1 hσ1 => ?_)
  refine zw_up (by unfold W_X5_begin; omega) hσ1 (fun σ7 hσ7 => ?_)
  refine zw_up (by unfold W_X5_begin; omega) hσ7 (fun σ13 hσ13 => ?_)
  exact zw_some hσ13
theorem w_X1_readText (a1 : Int32) (σ0 : zg_S) : zw (W_X1_readText) σ0 (f_X1_readText a1 σ0) := by
  unfold f_X1_readText
  refine zw_call (w_X6_held a1 0 96 σ0) (fun p k h => False.elim h) wr.rf (fun r1 σ2 hσ2 => ?_)
  refine zw_up (by unfold W_X1_readText; omega) hσ2 (fun σ8 hσ8 => ?_)
  refine zw_up (by unfold W_X1_readText; omega) hσ8 (fun σ14 hσ14 => ?_)
  refine zw_up (by unfold W_X1_readText; omega) hσ14 (fun σ20 hσ20 => ?_)
  refine zw_up (by unfold W_X1_readText; omega) hσ20 (fun σ26 hσ26 => ?_)
  refine zw_up (by unfold W_X1_readText; omega) hσ26 (fun σ32 hσ32 => ?_)
  refine zw_call (w_X1_advance σ32) (fun p k h => by unfold W_X1_advance at h; unfold W_X1_readText; omega) hσ32 (fun r38 σ39 hσ39 => ?_)
  refine zw_call (w_X1_keyHere σ39) (fun p k h => False.elim h) hσ39 (fun r45 σ46 hσ46 => ?_)
  refine zw_ite ?_ ?_
  · exact zw_some hσ46
  · refine zw_call (w_X5_begin 8 r45 σ46) (fun p k h => by unfold W_X5_begin at h; unfold W_X1_readText; omega) hσ46 (fun r56 σ57 hσ57 => ?_)
    refine zw_call (w_X1_advance σ57) (fun p k h => by unfold W_X1_advance at h; unfold W_X1_readText; omega) hσ57 (fun r63 σ64 hσ64 => ?_)
    refine zw_call (w_G_rd 128 0 0 σ64) (fun p k h => by unfold W_G_rd at h; unfold W_X1_readText; omega) hσ64 (fun r70 σ71 hσ71 => ?_)
    refine zw_ite ?_ ?_
    · exact zw_some hσ71
    · refine zw_ite ?_ ?_
      · exact zw_some hσ71
      · exact zw_some hσ71
