theorem wB_X7_shaded_83 (σ0 : zg_S) (a1 : Int32) (a2 : Int32) (rec32_ : Int32 → Int32 → zg_S → Option (Int32 × zg_S)) (x4 : Int32) (x5 : Int32) (x6 : Int32) (y0 : Int32) (y1 : Int32) (s : zg_S) (hrec32_ : ∀ (z0 : Int32) (z1 : Int32) (s : zg_S), wr (W_X7_shaded) σ0 s → zw (W_X7_shaded) σ0 (rec32_ z0 z1 s)) (hs : wr (W_X7_shaded) σ0 s) : zw (W_X7_shaded) σ0 (B_X7_shaded_83 a1 a2 rec32_ x4 x5 x6 y0 y1 s) := by
  unfold B_X7_shaded_83
  refine zw_up (by unfold W_X7_shaded; omega) hs (fun σ3 hσ3 => ?_)
  refine zw_call (w_X7_goesOnBy x6 σ3) (fun p k h => by unfold W_X7_goesOnBy at h; unfold W_X7_shaded; omega) hσ3 (fun r9 σ10 hσ10 => ?_)
  exact hrec32_ (y1 + y0) (x4 + 1) σ10 hσ10
theorem wB_X7_shaded_32 (σ0 : zg_S) (a1 : Int32) (a2 : Int32) (rec32_ : Int32 → Int32 → zg_S → Option (Int32 × zg_S)) (x3 : Int32) (x4 : Int32) (s : zg_S) (hrec32_ : ∀ (z0 : Int32) (z1 : Int32) (s : zg_S), wr (W_X7_shaded) σ0 s → zw (W_X7_shaded) σ0 (rec32_ z0 z1 s)) (hs : wr (W_X7_shaded) σ0 s) : zw (W_X7_shaded) σ0 (B_X7_shaded_32 a1 a2 rec32_ x3 x4 s) := by
  unfold B_X7_shaded_32
  refine zw_ite ?_ ?_
  · refine zw_call (w_X7_laysBack s) (fun p k h => by unfold W_X7_laysBack at h; unfold W_X7_shaded; omega) hs (fun r20 σ21 hσ21 => ?_)
    exact zw_some hσ21
  · refine zw_call (w_X7_hauls s) (fun p k h => by unfold W_X7_hauls at h; unfold W_X7_shaded; omega) hs (fun r30 σ31 hσ31 => ?_)
    refine zw_up (by unfold W_X7_shaded; omega) hσ31 (fun σ39 hσ39 => ?_)
    refine zw_call (w_X7_holds σ39) (fun p k h => by unfold W_X7_holds at h; unfold W_X7_shaded; omega) hσ39 (fun r45 σ46 hσ46 => ?_)
    refine zw_call (w_X7_isShaded a1 σ46) (fun p k h => False.elim h) hσ46 (fun r52 σ53 hσ53 => ?_)
    refine zw_ite ?_ ?_
    · exact wB_X7_shaded_83 σ0 a1 a2 rec32_ x4 (s 1 7) r30 0 x3 σ53 hrec32_ hσ53
    · exact wB_X7_shaded_83 σ0 a1 a2 rec32_ x4 (s 1 7) r30 1 x3 σ53 hrec32_ hσ53
theorem wL_X7_shaded_32 (σ0 : zg_S) (a1 : Int32) (a2 : Int32) (n : Nat) (x3 : Int32) (x4 : Int32) (s : zg_S) (hs : wr (W_X7_shaded) σ0 s) : zw (W_X7_shaded) σ0 (L_X7_shaded_32 a1 a2 n x3 x4 s) := by
  unfold L_X7_shaded_32
  exact zwf_II (fun r hr x3 x4 t ht => wB_X7_shaded_32 σ0 a1 a2 r x3 x4 t hr ht) n x3 x4 s hs
theorem w_X7_shaded (a1 : Int32) (a2 : Int32) (σ0 : zg_S) : zw (W_X7_shaded) σ0 (f_X7_shaded a1 a2 σ0) := by
  unfold f_X7_shaded
  refine zw_call (w_X7_isStall a1 σ0) (fun p k h => False.elim h) wr.rf (fun r62 σ63 hσ63 => ?_)
  refine zw_ite ?_ ?_
  · exact zw_some hσ63
  · refine zw_call (w_X7_isIn (Int32.toInt64 a2) (Int32.toInt64 1) (Int32.toInt64 60) σ63) (fun p k h => False.elim h) hσ63 (fun r72 σ73 hσ73 => ?_)
    refine zw_ite ?_ ?_
    · exact zw_some hσ73
    · refine zw_call (w_X7_laysBy σ73) (fun p k h => by unfold W_X7_laysBy at h; unfold W_X7_shaded; omega) hσ73 (fun r81 σ82 hσ82 => ?_)
      exact wL_X7_shaded_32 σ0 a1 a2 zfu 0 0 σ82  hσ82
theorem wB_X7_sheet_69 (σ0 : zg_S) (a1 : Int32) (a2 : Int32) (a3 : Int32) (rec69_ : Int32 → zg_S → Option (Int32 × zg_S)) (x4 : Int32) (s : zg_S) (hrec69_ : ∀ (z0 : Int32) (s : zg_S), wr (W_X7_sheet) σ0 s → zw (W_X7_sheet) σ0 (rec69_ z0 s)) (hs : wr (W_X7_sheet) σ0 s) : zw (W_X7_sheet) σ0 (B_X7_sheet_69 a1 a2 a3 rec69_ x4 s) := by
  unfold B_X7_sheet_69
  refine zw_ite ?_ ?_
  · refine zw_in (fun z1 => ?_)
    exact zw_some hs
  · refine zw_in (fun z2 => ?_)
    refine zw_up (by unfold W_X7_sheet; omega) hs (fun σ10 hσ10 => ?_)
    exact hrec69_ (x4 + 1) σ10 hσ10
theorem wL_X7_sheet_69 (σ0 : zg_S) (a1 : Int32) (a2 : Int32) (a3 : Int32) (n : Nat) (x4 : Int32) (s : zg_S) (hs : wr (W_X7_sheet) σ0 s) : zw (W_X7_sheet) σ0 (L_X7_sheet_69 a1 a2 a3 n x4 s) := by
  unfold L_X7_sheet_69
  exact zwf_I (fun r hr x4 t ht => wB_X7_sheet_69 σ0 a1 a2 a3 r x4 t hr ht) n x4 s hs
theorem wB_X7_sheet_65 (σ0 : zg_S) (a1 : Int32) (a2 : Int32) (a3 : Int32) (y0 : Int32) (y1 : Int32) (s : zg_S) (hs : wr (W_X7_sheet) σ0 s) : zw (W_X7_sheet) σ0 (B_X7_sheet_65 a1 a2 a3 y0 y1 s) := by
  unfold B_X7_sheet_65
  refine zw_in (fun z1 => ?_)
  refine zw_up (by unfold W_X7_sheet; omega) hs (fun σ21 hσ21 => ?_)
  exact wL_X7_sheet_69 σ0 a1 a2 a3 zfu 0 σ21  hσ21
theorem wB_X7_sheet_44 (σ0 : zg_S) (a1 : Int32) (a2 : Int32) (a3 : Int32) (s : zg_S) (hs : wr (W_X7_sheet) σ0 s) : zw (W_X7_sheet) σ0 (B_X7_sheet_44 a1 a2 a3 s) := by
  unfold B_X7_sheet_44
  refine zw_in (fun z1 => ?_)
  refine zw_up (by unfold W_X7_sheet; omega) hs (fun σ32 hσ32 => ?_)
  refine zw_ite ?_ ?_
  · exact wB_X7_sheet_65 σ0 a1 a2 a3 a3 a1 σ32  hσ32
  · exact wB_X7_sheet_65 σ0 a1 a2 a3 0 a1 σ32  hσ32
theorem wB_X7_sheet_32 (σ0 : zg_S) (a1 : Int32) (a2 : Int32) (a3 : Int32) (s : zg_S) (hs : wr (W_X7_sheet) σ0 s) : zw (W_X7_sheet) σ0 (B_X7_sheet_32 a1 a2 a3 s) := by
  unfold B_X7_sheet_32
  refine zw_ite ?_ ?_
  · exact wB_X7_sheet_44 σ0 a1 a2 a3 s  hs
  · refine zw_ite ?_ ?_
    · exact wB_X7_sheet_44 σ0 a1 a2 a3 s  hs
    · exact zw_some hs
theorem w_X7_sheet (a1 : Int32) (a2 : Int32) (a3 : Int32) (σ0 : zg_S) : zw (W_X7_sheet) σ0 (f_X7_sheet a1 a2 a3 σ0) := by
  unfold f_X7_sheet
  refine zw_call (w_X7_isSheet a1 σ0) (fun p k h => False.elim h) wr.rf (fun r47 σ48 hσ48 => ?_)
  refine zw_ite ?_ ?_
  · exact zw_some hσ48
  · refine zw_call (w_X7_isIn (Int32.toInt64 a2) (Int32.toInt64 (-1)) (Int32.toInt64 1) σ48) (fun p k h => False.elim h) hσ48 (fun r57 σ58 hσ58 => ?_)
    refine zw_ite ?_ ?_
    · exact zw_some hσ58
    · refine zw_ite ?_ ?_
      · exact wB_X7_sheet_32 σ0 a1 a2 a3 σ58  hσ58
      · refine zw_ite ?_ ?_
        · exact wB_X7_sheet_32 σ0 a1 a2 a3 σ58  hσ58
        · exact zw_some hσ58
theorem w_X7_stall (a1 : Int32) (a2 : Int32) (a3 : Int32) (σ0 : zg_S) : zw (W_X7_stall) σ0 (f_X7_stall a1 a2 a3 σ0) := by
  unfold f_X7_stall
  refine zw_call (w_X7_isIn (Int32.toInt64 a1) (Int32.toInt64 0) (Int32.toInt64 5) σ0) (fun p k h => False.elim h) wr.rf (fun r1 σ2 hσ2 => ?_)
  refine zw_ite ?_ ?_
  · exact zw_some hσ2
  · refine zw_call (w_X7_isIn (Int32.toInt64 a2) (Int32.toInt64 0) (Int32.toInt64 11) σ2) (fun p k h => False.elim h) hσ2 (fun r11 σ12 hσ12 => ?_)
    refine zw_ite ?_ ?_
    · exact zw_some hσ12
    · refine zw_call (w_X7_isIn (Int32.toInt64 a3) (Int32.toInt64 0) (Int32.toInt64 99) σ12) (fun p k h => False.elim h) hσ12 (fun r21 σ22 hσ22 => ?_)
      refine zw_ite ?_ ?_
      · exact zw_some hσ22
      · refine zw_ite ?_ ?_
        · exact zw_some hσ22
        · refine zw_call (w_X7_comes a1 a2 a3 σ22) (fun p k h => by unfold W_X7_comes at h; unfold W_X7_stall; omega) hσ22 (fun r32 σ33 hσ33 => ?_)
          exact zw_some hσ33
theorem w_X7_tell (a1 : Int32) (σ0 : zg_S) : zw (W_X7_tell) σ0 (f_X7_tell a1 σ0) := by
  unfold f_X7_tell
  refine zw_ite ?_ ?_
  · exact zw_some wr.rf
  · refine zw_in (fun z1 => ?_)
    refine zw_up (by unfold W_X7_tell; omega) wr.rf (fun σ6 hσ6 => ?_)
    refine zw_up (by unfold W_X7_tell; omega) hσ6 (fun σ12 hσ12 => ?_)
    exact zw_some hσ12
theorem w_X7_text  (σ0 : zg_S) : zw (W_X7_text) σ0 (f_X7_text  σ0) := by
  unfold f_X7_text
  refine zw_call (w_X7_parse σ0) (fun p k h => by unfold W_X7_parse at h; unfold W_X7_text; omega) wr.rf (fun r1 σ2 hσ2 => ?_)
  refine zw_ite ?_ ?_
  · refine zw_ite ?_ ?_
    · exact zw_some hσ2
    · refine zw_call (w_X7_textAt (σ2 1 1) σ2) (fun p k h => False.elim h) hσ2 (fun r14 σ15 hσ15 => ?_)
      refine zw_in (fun z1 => ?_)
      refine zw_up (by unfold W_X7_text; omega) hσ15 (fun σ26 hσ26 => ?_)
      refine zw_in (fun z2 => ?_)
      refine zw_up (by unfold W_X7_text; omega) hσ26 (fun σ35 hσ35 => ?_)
      refine zw_in (fun z3 => ?_)
      refine zw_up (by unfold W_X7_text; omega) hσ35 (fun σ44 hσ44 => ?_)
      refine zw_up (by unfold W_X7_text; omega) hσ44 (fun σ50 hσ50 => ?_)
      exact zw_some hσ50
  · exact zw_some hσ2
theorem w_X7_textTold (a1 : Int32) (a2 : Int32) (σ0 : zg_S) : zw (W_X7_textTold) σ0 (f_X7_textTold a1 a2 σ0) := by
  unfold f_X7_textTold
  refine zw_call (w_X7_isText a1 σ0) (fun p k h => False.elim h) wr.rf (fun r1 σ2 hσ2 => ?_)
  refine zw_ite ?_ ?_
  · exact zw_some hσ2
  · refine zw_call (w_X7_isIn (Int32.toInt64 a2) (Int32.toInt64 0) (Int32.toInt64 1) σ2) (fun p k h => False.elim h) hσ2 (fun r11 σ12 hσ12 => ?_)
    refine zw_ite ?_ ?_
    · exact zw_some hσ12
    · refine zw_call (w_X7_textAt a1 σ12) (fun p k h => False.elim h) hσ12 (fun r20 σ21 hσ21 => ?_)
      refine zw_in (fun z1 => ?_)
      exact zw_some hσ21
theorem wB_X7_told_56 (σ0 : zg_S) (a1 : Int32) (a2 : Int32) (s : zg_S) (hs : wr (W_X7_told) σ0 s) : zw (W_X7_told) σ0 (B_X7_told_56 a1 a2 s) := by
  unfold B_X7_told_56
  refine zw_call (w_X7_of a1 a2 s) (fun p k h => False.elim h) hs (fun r1 σ2 hσ2 => ?_)
  exact zw_some hσ2
theorem w_X7_told (a1 : Int32) (a2 : Int32) (σ0 : zg_S) : zw (W_X7_told) σ0 (f_X7_told a1 a2 σ0) := by
  unfold f_X7_told
  refine zw_call (w_X7_isStall a1 σ0) (fun p k h => False.elim h) wr.rf (fun r8 σ9 hσ9 => ?_)
  refine zw_ite ?_ ?_
  · exact zw_some hσ9
  · refine zw_ite ?_ ?_
    · exact wB_X7_told_56 σ0 a1 a2 σ9  hσ9
    · refine zw_ite ?_ ?_
      · exact wB_X7_told_56 σ0 a1 a2 σ9  hσ9
      · refine zw_ite ?_ ?_
        · exact wB_X7_told_56 σ0 a1 a2 σ9  hσ9
        · refine zw_ite ?_ ?_
          · exact wB_X7_told_56 σ0 a1 a2 σ9  hσ9
          · refine zw_ite ?_ ?_
            · refine zw_call (w_X7_spoils a1 σ9) (fun p k h => by unfold W_X7_spoils at h; unfold W_X7_told; omega) hσ9 (fun r31 σ32 hσ32 => ?_)
              exact zw_some hσ32
            · refine zw_ite ?_ ?_
              · refine zw_call (w_X7_isShaded a1 σ9) (fun p k h => False.elim h) hσ9 (fun r41 σ42 hσ42 => ?_)
                refine zw_ite ?_ ?_
                · exact zw_some hσ42
                · exact zw_some hσ42
              · refine zw_ite ?_ ?_
                · refine zw_call (w_X7_worth a1 σ9) (fun p k h => False.elim h) hσ9 (fun r54 σ55 hσ55 => ?_)
                  exact zw_some hσ55
                · exact zw_some hσ9
theorem w_X7_trim (a1 : Int32) (σ0 : zg_S) : zw (W_X7_trim) σ0 (f_X7_trim a1 σ0) := by
  unfold f_X7_trim
  refine zw_call (w_X7_isIn (Int32.toInt64 a1) (Int32.toInt64 0) (Int32.toInt64 (σ0 0 14)) σ0) (fun p k h => False.elim h) wr.rf (fun r1 σ2 hσ2 => ?_)
  refine zw_ite ?_ ?_
  · exact zw_some hσ2
  · refine zw_up (by unfold W_X7_trim; omega) hσ2 (fun σ10 hσ10 => ?_)
    exact zw_some hσ10
theorem w_X7_turns (a1 : Int32) (a2 : Int32) (σ0 : zg_S) : zw (W_X7_turns) σ0 (f_X7_turns a1 a2 σ0) := by
  unfold f_X7_turns
  refine zw_call (w_X7_isStall a1 σ0) (fun p k h => False.elim h) wr.rf (fun r1 σ2 hσ2 => ?_)
  refine zw_ite ?_ ?_
  · exact zw_some hσ2
  · refine zw_call (w_X7_isIn (Int32.toInt64 a2) (Int32.toInt64 0) (Int32.toInt64 5) σ2) (fun p k h => False.elim h) hσ2 (fun r11 σ12 hσ12 => ?_)
    refine zw_ite ?_ ?_
    · exact zw_some hσ12
    · refine zw_call (w_X7_becomes (11 + (4 * a1)) a2 σ12) (fun p k h => by unfold W_X7_becomes at h; unfold W_X7_turns; omega) hσ12 (fun r21 σ22 hσ22 => ?_)
      exact zw_some hσ22
theorem wB_X7_whose_182 (σ0 : zg_S) (a1 : Int32) (a2 : Int32) (a3 : Int32) (rec58_ : Int32 → Int32 → Int32 → zg_S → Option (Int32 × zg_S)) (x4 : Int32) (x5 : Int32) (x6 : Int32) (s : zg_S) (hrec58_ : ∀ (z0 : Int32) (z1 : Int32) (z2 : Int32) (s : zg_S), wr (W_X7_whose) σ0 s → zw (W_X7_whose) σ0 (rec58_ z0 z1 z2 s)) (hs : wr (W_X7_whose) σ0 s) : zw (W_X7_whose) σ0 (B_X7_whose_182 a1 a2 a3 rec58_ x4 x5 x6 s) := by
  unfold B_X7_whose_182
  exact hrec58_ x4 x5 (x6 + 1) s hs
theorem wB_X7_whose_174 (σ0 : zg_S) (a1 : Int32) (a2 : Int32) (a3 : Int32) (rec58_ : Int32 → Int32 → Int32 → zg_S → Option (Int32 × zg_S)) (x6 : Int32) (x7 : Int32) (s : zg_S) (hrec58_ : ∀ (z0 : Int32) (z1 : Int32) (z2 : Int32) (s : zg_S), wr (W_X7_whose) σ0 s → zw (W_X7_whose) σ0 (rec58_ z0 z1 z2 s)) (hs : wr (W_X7_whose) σ0 s) : zw (W_X7_whose) σ0 (B_X7_whose_174 a1 a2 a3 rec58_ x6 x7 s) := by
  unfold B_X7_whose_174
  exact wB_X7_whose_182 σ0 a1 a2 a3 rec58_ x6 x7 x6 s hrec58_ hs
theorem wB_X7_whose_149 (σ0 : zg_S) (a1 : Int32) (a2 : Int32) (a3 : Int32) (rec84_ : Int32 → Int32 → Int32 → Int32 → Int32 → zg_S → Option (Int32 × zg_S)) (x4 : Int32) (x5 : Int32) (x6 : Int32) (x8 : Int32) (y0 : Int32) (y1 : Int32) (s : zg_S) (hrec84_ : ∀ (z0 : Int32) (z1 : Int32) (z2 : Int32) (z3 : Int32) (z4 : Int32) (s : zg_S), wr (W_X7_whose) σ0 s → zw (W_X7_whose) σ0 (rec84_ z0 z1 z2 z3 z4 s)) (hs : wr (W_X7_whose) σ0 s) : zw (W_X7_whose) σ0 (B_X7_whose_149 a1 a2 a3 rec84_ x4 x5 x6 x8 y0 y1 s) := by
  unfold B_X7_whose_149
  exact hrec84_ x4 x5 x6 (y1 + y0) (x8 + 1) s hs
theorem wB_X7_whose_146 (σ0 : zg_S) (a1 : Int32) (a2 : Int32) (a3 : Int32) (rec84_ : Int32 → Int32 → Int32 → Int32 → Int32 → zg_S → Option (Int32 × zg_S)) (x4 : Int32) (x5 : Int32) (x6 : Int32) (x8 : Int32) (y0 : Int32) (y1 : Int32) (y2 : Int32) (s : zg_S) (hrec84_ : ∀ (z0 : Int32) (z1 : Int32) (z2 : Int32) (z3 : Int32) (z4 : Int32) (s : zg_S), wr (W_X7_whose) σ0 s → zw (W_X7_whose) σ0 (rec84_ z0 z1 z2 z3 z4 s)) (hs : wr (W_X7_whose) σ0 s) : zw (W_X7_whose) σ0 (B_X7_whose_146 a1 a2 a3 rec84_ x4 x5 x6 x8 y0 y1 y2 s) := by
  unfold B_X7_whose_146
  refine zw_call (w_X7_off y1 y0 s) (fun p k h => False.elim h) hs (fun r11 σ12 hσ12 => ?_)
  exact wB_X7_whose_149 σ0 a1 a2 a3 rec84_ x4 x5 x6 x8 r11 y2 σ12 hrec84_ hσ12
theorem wB_X7_whose_84 (σ0 : zg_S) (a1 : Int32) (a2 : Int32) (a3 : Int32) (rec58_ : Int32 → Int32 → Int32 → zg_S → Option (Int32 × zg_S)) (rec84_ : Int32 → Int32 → Int32 → Int32 → Int32 → zg_S → Option (Int32 × zg_S)) (x4 : Int32) (x5 : Int32) (x6 : Int32) (x7 : Int32) (x8 : Int32) (s : zg_S) (hrec58_ : ∀ (z0 : Int32) (z1 : Int32) (z2 : Int32) (s : zg_S), wr (W_X7_whose) σ0 s → zw (W_X7_whose) σ0 (rec58_ z0 z1 z2 s)) (hrec84_ : ∀ (z0 : Int32) (z1 : Int32) (z2 : Int32) (z3 : Int32) (z4 : Int32) (s : zg_S), wr (W_X7_whose) σ0 s → zw (W_X7_whose) σ0 (rec84_ z0 z1 z2 z3 z4 s)) (hs : wr (W_X7_whose) σ0 s) : zw (W_X7_whose) σ0 (B_X7_whose_84 a1 a2 a3 rec58_ rec84_ x4 x5 x6 x7 x8 s) := by
  unfold B_X7_whose_84
  refine zw_in (fun z1 => ?_)
  refine zw_ite ?_ ?_
  · refine zw_call (w_X7_laysBack s) (fun p k h => by unfold W_X7_laysBack at h; unfold W_X7_whose; omega) hs (fun r23 σ24 hσ24 => ?_)
    refine zw_ite ?_ ?_
    · exact wB_X7_whose_174 σ0 a1 a2 a3 rec58_ x6 x7 σ24 hrec58_ hσ24
    · refine zw_ite ?_ ?_
      · exact wB_X7_whose_182 σ0 a1 a2 a3 rec58_ x4 x5 x6 σ24 hrec58_ hσ24
      · exact wB_X7_whose_174 σ0 a1 a2 a3 rec58_ x6 x7 σ24 hrec58_ hσ24
  · refine zw_in (fun z2 => ?_)
    refine zw_let (fun y40 => ?_)
    refine zw_ite ?_ ?_
    · exact wB_X7_whose_149 σ0 a1 a2 a3 rec84_ x4 x5 x6 x8 0 x7 s hrec84_ hs
    · refine zw_ite ?_ ?_
      · exact wB_X7_whose_146 σ0 a1 a2 a3 rec84_ x4 x5 x6 x8 0 y40 x7 s hrec84_ hs
      · refine zw_call (w_X7_of x8 2 s) (fun p k h => False.elim h) hs (fun r50 σ51 hσ51 => ?_)
        exact wB_X7_whose_146 σ0 a1 a2 a3 rec84_ x4 x5 x6 x8 r50 y40 x7 σ51 hrec84_ hσ51
theorem wL_X7_whose_84 (σ0 : zg_S) (a1 : Int32) (a2 : Int32) (a3 : Int32) (rec58_ : Int32 → Int32 → Int32 → zg_S → Option (Int32 × zg_S)) (n : Nat) (x4 : Int32) (x5 : Int32) (x6 : Int32) (x7 : Int32) (x8 : Int32) (s : zg_S) (hrec58_ : ∀ (z0 : Int32) (z1 : Int32) (z2 : Int32) (s : zg_S), wr (W_X7_whose) σ0 s → zw (W_X7_whose) σ0 (rec58_ z0 z1 z2 s)) (hs : wr (W_X7_whose) σ0 s) : zw (W_X7_whose) σ0 (L_X7_whose_84 a1 a2 a3 rec58_ n x4 x5 x6 x7 x8 s) := by
  unfold L_X7_whose_84
  exact zwf_IIIII (fun r hr x4 x5 x6 x7 x8 t ht => wB_X7_whose_84 σ0 a1 a2 a3 rec58_ r x4 x5 x6 x7 x8 t hrec58_ hr ht) n x4 x5 x6 x7 x8 s hs
theorem wB_X7_whose_58 (σ0 : zg_S) (a1 : Int32) (a2 : Int32) (a3 : Int32) (rec58_ : Int32 → Int32 → Int32 → zg_S → Option (Int32 × zg_S)) (x4 : Int32) (x5 : Int32) (x6 : Int32) (s : zg_S) (hrec58_ : ∀ (z0 : Int32) (z1 : Int32) (z2 : Int32) (s : zg_S), wr (W_X7_whose) σ0 s → zw (W_X7_whose) σ0 (rec58_ z0 z1 z2 s)) (hs : wr (W_X7_whose) σ0 s) : zw (W_X7_whose) σ0 (B_X7_whose_58 a1 a2 a3 rec58_ x4 x5 x6 s) := by
  unfold B_X7_whose_58
  refine zw_ite ?_ ?_
  · refine zw_ite ?_ ?_
    · exact zw_some hs
    · exact zw_some hs
  · refine zw_up (by unfold W_X7_whose; omega) hs (fun σ64 hσ64 => ?_)
    refine zw_call (w_X7_goesOnMany a2 σ64) (fun p k h => by unfold W_X7_goesOnMany at h; unfold W_X7_whose; omega) hσ64 (fun r70 σ71 hσ71 => ?_)
    exact wL_X7_whose_84 σ0 a1 a2 a3 rec58_ zfu x4 x5 x6 0 0 σ71 hrec58_ hσ71
theorem wL_X7_whose_58 (σ0 : zg_S) (a1 : Int32) (a2 : Int32) (a3 : Int32) (n : Nat) (x4 : Int32) (x5 : Int32) (x6 : Int32) (s : zg_S) (hs : wr (W_X7_whose) σ0 s) : zw (W_X7_whose) σ0 (L_X7_whose_58 a1 a2 a3 n x4 x5 x6 s) := by
  unfold L_X7_whose_58
  exact zwf_III (fun r hr x4 x5 x6 t ht => wB_X7_whose_58 σ0 a1 a2 a3 r x4 x5 x6 t hr ht) n x4 x5 x6 s hs
theorem w_X7_whose (a1 : Int32) (a2 : Int32) (a3 : Int32) (σ0 : zg_S) : zw (W_X7_whose) σ0 (f_X7_whose a1 a2 a3 σ0) := by
  unfold f_X7_whose
  refine zw_call (w_X7_isSheet a1 σ0) (fun p k h => False.elim h) wr.rf (fun r81 σ82 hσ82 => ?_)
  refine zw_ite ?_ ?_
  · exact zw_some hσ82
  · refine zw_call (w_X7_isIn (Int32.toInt64 a2) (Int32.toInt64 0) (Int32.toInt64 60) σ82) (fun p k h => False.elim h) hσ82 (fun r91 σ92 hσ92 => ?_)
    refine zw_ite ?_ ?_
    · exact zw_some hσ92
    · refine zw_call (w_X7_isIn (Int32.toInt64 a3) (Int32.toInt64 0) (Int32.toInt64 1) σ92) (fun p k h => False.elim h) hσ92 (fun r101 σ102 hσ102 => ?_)
      refine zw_ite ?_ ?_
      · exact zw_some hσ102
      · refine zw_in (fun z1 => ?_)
        refine zw_ite ?_ ?_
        · refine zw_call (w_X7_laysBy σ102) (fun p k h => by unfold W_X7_laysBy at h; unfold W_X7_whose; omega) hσ102 (fun r115 σ116 hσ116 => ?_)
          exact wL_X7_whose_58 σ0 a1 a2 a3 zfu (-1) 0 0 σ116  hσ116
        · exact zw_some hσ102
theorem w_X7_why (a1 : Int32) (σ0 : zg_S) : zw (W_X7_why) σ0 (f_X7_why a1 σ0) := by
  unfold f_X7_why
  refine zw_call (w_X7_isIn (Int32.toInt64 a1) (Int32.toInt64 0) (Int32.toInt64 2) σ0) (fun p k h => False.elim h) wr.rf (fun r1 σ2 hσ2 => ?_)
  refine zw_ite ?_ ?_
  · exact zw_some hσ2
  · refine zw_call (w_X7_counts a1 σ2) (fun p k h => False.elim h) hσ2 (fun r11 σ12 hσ12 => ?_)
    refine zw_call (w_X7_orNone r11 σ12) (fun p k h => False.elim h) hσ12 (fun r18 σ19 hσ19 => ?_)
    exact zw_some hσ19
theorem wB_X7_wider_77 (σ0 : zg_S) (a1 : Int32) (a2 : Int32) (rec37_ : Int32 → Int32 → zg_S → Option (Int32 × zg_S)) (x4 : Int32) (y0 : Int32) (s : zg_S) (hrec37_ : ∀ (z0 : Int32) (z1 : Int32) (s : zg_S), wr (W_X7_wider) σ0 s → zw (W_X7_wider) σ0 (rec37_ z0 z1 s)) (hs : wr (W_X7_wider) σ0 s) : zw (W_X7_wider) σ0 (B_X7_wider_77 a1 a2 rec37_ x4 y0 s) := by
  unfold B_X7_wider_77
  refine zw_call (w_X7_laysBack s) (fun p k h => by unfold W_X7_laysBack at h; unfold W_X7_wider; omega) hs (fun r3 σ4 hσ4 => ?_)
  exact hrec37_ y0 (x4 + (-1)) σ4 hσ4
theorem wB_X7_wider_37 (σ0 : zg_S) (a1 : Int32) (a2 : Int32) (rec37_ : Int32 → Int32 → zg_S → Option (Int32 × zg_S)) (x3 : Int32) (x4 : Int32) (s : zg_S) (hrec37_ : ∀ (z0 : Int32) (z1 : Int32) (s : zg_S), wr (W_X7_wider) σ0 s → zw (W_X7_wider) σ0 (rec37_ z0 z1 s)) (hs : wr (W_X7_wider) σ0 s) : zw (W_X7_wider) σ0 (B_X7_wider_37 a1 a2 rec37_ x3 x4 s) := by
  unfold B_X7_wider_37
  refine zw_ite ?_ ?_
  · refine zw_call (w_X7_orNone x3 s) (fun p k h => False.elim h) hs (fun r14 σ15 hσ15 => ?_)
    exact zw_some hσ15
  · refine zw_up (by unfold W_X7_wider; omega) hs (fun σ22 hσ22 => ?_)
    refine zw_call (w_X7_holds σ22) (fun p k h => by unfold W_X7_holds at h; unfold W_X7_wider; omega) hσ22 (fun r28 σ29 hσ29 => ?_)
    refine zw_call (w_X7_goesOnMany a2 σ29) (fun p k h => by unfold W_X7_goesOnMany at h; unfold W_X7_wider; omega) hσ29 (fun r35 σ36 hσ36 => ?_)
    refine zw_ite ?_ ?_
    · exact wB_X7_wider_77 σ0 a1 a2 rec37_ x4 x3 σ36 hrec37_ hσ36
    · exact wB_X7_wider_77 σ0 a1 a2 rec37_ x4 x4 σ36 hrec37_ hσ36
theorem wL_X7_wider_37 (σ0 : zg_S) (a1 : Int32) (a2 : Int32) (n : Nat) (x3 : Int32) (x4 : Int32) (s : zg_S) (hs : wr (W_X7_wider) σ0 s) : zw (W_X7_wider) σ0 (L_X7_wider_37 a1 a2 n x3 x4 s) := by
  unfold L_X7_wider_37
  exact zwf_II (fun r hr x3 x4 t ht => wB_X7_wider_37 σ0 a1 a2 r x3 x4 t hr ht) n x3 x4 s hs
theorem w_X7_wider (a1 : Int32) (a2 : Int32) (σ0 : zg_S) : zw (W_X7_wider) σ0 (f_X7_wider a1 a2 σ0) := by
  unfold f_X7_wider
  refine zw_call (w_X7_isIn (Int32.toInt64 a1) (Int32.toInt64 0) (Int32.toInt64 9999) σ0) (fun p k h => False.elim h) wr.rf (fun r45 σ46 hσ46 => ?_)
  refine zw_ite ?_ ?_
  · exact zw_some hσ46
  · refine zw_call (w_X7_isIn (Int32.toInt64 a2) (Int32.toInt64 1) (Int32.toInt64 60) σ46) (fun p k h => False.elim h) hσ46 (fun r55 σ56 hσ56 => ?_)
    refine zw_ite ?_ ?_
    · exact zw_some hσ56
    · refine zw_call (w_X7_laysBy σ56) (fun p k h => by unfold W_X7_laysBy at h; unfold W_X7_wider; omega) hσ56 (fun r64 σ65 hσ65 => ?_)
      exact wL_X7_wider_37 σ0 a1 a2 zfu (-1) 6 σ65  hσ65
theorem wB_X7_without_91 (σ0 : zg_S) (a1 : Int32) (a2 : Int32) (rec37_ : Int32 → Int32 → Int32 → zg_S → Option (Int32 × zg_S)) (x3 : Int32) (x4 : Int32) (x5 : Int32) (s : zg_S) (hrec37_ : ∀ (z0 : Int32) (z1 : Int32) (z2 : Int32) (s : zg_S), wr (W_X7_without) σ0 s → zw (W_X7_without) σ0 (rec37_ z0 z1 z2 s)) (hs : wr (W_X7_without) σ0 s) : zw (W_X7_without) σ0 (B_X7_without_91 a1 a2 rec37_ x3 x4 x5 s) := by
  unfold B_X7_without_91
  exact hrec37_ x3 x4 (x5 + 1) s hs
theorem wB_X7_without_84 (σ0 : zg_S) (a1 : Int32) (a2 : Int32) (rec37_ : Int32 → Int32 → Int32 → zg_S → Option (Int32 × zg_S)) (x5 : Int32) (x6 : Int32) (s : zg_S) (hrec37_ : ∀ (z0 : Int32) (z1 : Int32) (z2 : Int32) (s : zg_S), wr (W_X7_without) σ0 s → zw (W_X7_without) σ0 (rec37_ z0 z1 z2 s)) (hs : wr (W_X7_without) σ0 s) : zw (W_X7_without) σ0 (B_X7_without_84 a1 a2 rec37_ x5 x6 s) := by
  unfold B_X7_without_84
  exact wB_X7_without_91 σ0 a1 a2 rec37_ x5 x6 x5 s hrec37_ hs
theorem wB_X7_without_37 (σ0 : zg_S) (a1 : Int32) (a2 : Int32) (rec37_ : Int32 → Int32 → Int32 → zg_S → Option (Int32 × zg_S)) (x3 : Int32) (x4 : Int32) (x5 : Int32) (s : zg_S) (hrec37_ : ∀ (z0 : Int32) (z1 : Int32) (z2 : Int32) (s : zg_S), wr (W_X7_without) σ0 s → zw (W_X7_without) σ0 (rec37_ z0 z1 z2 s)) (hs : wr (W_X7_without) σ0 s) : zw (W_X7_without) σ0 (B_X7_without_37 a1 a2 rec37_ x3 x4 x5 s) := by
  unfold B_X7_without_37
  refine zw_ite ?_ ?_
  · refine zw_ite ?_ ?_
    · refine zw_ite ?_ ?_
      · exact zw_some hs
      · exact zw_some hs
    · exact zw_some hs
  · refine zw_call (w_X7_sets x5 3 0 s) (fun p k h => by unfold W_X7_sets at h; unfold W_X7_without; omega) hs (fun r16 σ17 hσ17 => ?_)
    refine zw_call (w_X7_goesOnMany a1 σ17) (fun p k h => by unfold W_X7_goesOnMany at h; unfold W_X7_without; omega) hσ17 (fun r23 σ24 hσ24 => ?_)
    refine zw_call (w_X7_laysBack σ24) (fun p k h => by unfold W_X7_laysBack at h; unfold W_X7_without; omega) hσ24 (fun r32 σ33 hσ33 => ?_)
    refine zw_ite ?_ ?_
    · exact wB_X7_without_84 σ0 a1 a2 rec37_ x5 (σ24 1 3) σ33 hrec37_ hσ33
    · refine zw_ite ?_ ?_
      · exact wB_X7_without_91 σ0 a1 a2 rec37_ x3 x4 x5 σ33 hrec37_ hσ33
      · exact wB_X7_without_84 σ0 a1 a2 rec37_ x5 (σ24 1 3) σ33 hrec37_ hσ33
theorem wL_X7_without_37 (σ0 : zg_S) (a1 : Int32) (a2 : Int32) (n : Nat) (x3 : Int32) (x4 : Int32) (x5 : Int32) (s : zg_S) (hs : wr (W_X7_without) σ0 s) : zw (W_X7_without) σ0 (L_X7_without_37 a1 a2 n x3 x4 x5 s) := by
  unfold L_X7_without_37
  exact zwf_III (fun r hr x3 x4 x5 t ht => wB_X7_without_37 σ0 a1 a2 r x3 x4 x5 t hr ht) n x3 x4 x5 s hs
theorem w_X7_without (a1 : Int32) (a2 : Int32) (σ0 : zg_S) : zw (W_X7_without) σ0 (f_X7_without a1 a2 σ0) := by
  unfold f_X7_without
  refine zw_call (w_X7_isIn (Int32.toInt64 a1) (Int32.toInt64 1) (Int32.toInt64 60) σ0) (fun p k h => False.elim h) wr.rf (fun r45 σ46 hσ46 => ?_)
  refine zw_ite ?_ ?_
  · exact zw_some hσ46
  · refine zw_call (w_X7_isIn (Int32.toInt64 a2) (Int32.toInt64 0) (Int32.toInt64 1) σ46) (fun p k h => False.elim h) hσ46 (fun r55 σ56 hσ56 => ?_)
    refine zw_ite ?_ ?_
    · exact zw_some hσ56
    · refine zw_call (w_X7_laysBy σ56) (fun p k h => by unfold W_X7_laysBy at h; unfold W_X7_without; omega) hσ56 (fun r64 σ65 hσ65 => ?_)
      exact wL_X7_without_37 σ0 a1 a2 zfu (-1) 0 0 σ65  hσ65
