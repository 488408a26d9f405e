set_option maxHeartbeats 400000 in
theorem s_X7_sheet (a1 : Int32) (a2 : Int32) (a3 : Int32) (σ : zg_S) (hσ : IMc σ)  : zk (f_X7_sheet a1 a2 a3 σ) (fun r s => IMc s ∧ hi σ s) := by
  unfold f_X7_sheet
  refine zk_call (s_X7_isSheet a1 σ hσ ) (fun r47 σ48 hp1 => ?_)
  obtain ⟨rfl, x2⟩ := hp1
  refine zk_ite (fun h6 => ?_) (fun h6 => ?_)
  · have g7 := zeq h6
    have e8 := zt_0
    exact zk_some ⟨hσ, hi.rf⟩
  · have g9 := zne h6
    have e10 := zt_0
    obtain ⟨_d3, _d4, _d5⟩ := x2.resolve_left h6
    have j11 := zI64 a2
    have j12 := zI64 (-1)
    have e13 := zt_m1
    have j14 := zI64 1
    have e15 := zt_1
    refine zk_call (s_X7_isIn (Int32.toInt64 a2) (Int32.toInt64 (-1)) (Int32.toInt64 1) σ hσ ) (fun r57 σ58 hp16 => ?_)
    obtain ⟨rfl, x17⟩ := hp16
    refine zk_ite (fun h21 => ?_) (fun h21 => ?_)
    · have g22 := zeq h21
      exact zk_some ⟨hσ, hi.rf⟩
    · have g23 := zne h21
      obtain ⟨_d18, _d19, _d20⟩ := x17.resolve_left h21
      refine zk_ite (fun h24 => ?_) (fun h24 => ?_)
      · have g25 := zlt h24
        unfold B_X7_sheet_32
        refine zk_ite (fun h26 => ?_) (fun h26 => ?_)
        · have g27 := zlt h26
          unfold B_X7_sheet_44
          have z28 : zin a1 4 = true := zin_mkT (zTs a1) (by omega) (by omega)
          refine zk_in z28 ?_
          refine zk_let (fun σ32 q31 => ?_)
          have hS29 : IMc σ32 := by rw [q31]; exact IMc.up hσ (zTs a2) trivial
          have hH30 : hi σ σ32 := by rw [q31]; exact hi.upo hi.rf rfl
          refine zk_ite (fun h32 => ?_) (fun h32 => ?_)
          · have g33 := zle h32
            unfold B_X7_sheet_65
            refine zk_in z28 ?_
            refine zk_let (fun σ21 q36 => ?_)
            have hS34 : IMc σ21 := by rw [q36]; exact IMc.up hS29 (zTs a3) ⟨by omega, by omega⟩
            have hH35 : hi σ σ21 := by rw [q36]; exact hi.upo hH30 rfl
            unfold L_X7_sheet_69
            refine zl_I (fun (x4 : Int32) (s69_ : zg_S) => IMc s69_ ∧ hi σ s69_ ∧ 0 ≤ x4.toInt ∧ x4.toInt ≤ 24) (fun (x4 : Int32) (s69_ : zg_S) => (24 - x4.toInt).toNat) ?_ zfu 0 σ21 ⟨hS34, hH35, (by omega), (by omega)⟩ (by unfold zfu; omega)
            intro rec69_ x4 s69_ hI37 ih69_
            obtain ⟨hS38, hH39, i40, i41⟩ := hI37
            unfold B_X7_sheet_69
            refine zk_ite (fun h42 => ?_) (fun h42 => ?_)
            · have g43 := zle h42
              have e44 := zt_24
              refine zk_in z28 ?_
              exact zk_some ⟨hS38, hH39⟩
            · have g45 := znle h42
              have e46 := zt_24
              have z47 : zin ((24 * a1) + x4) 96 = true := zin_mkT (zTadd (zTmul (zTl zt_24) (zTs a1) (by omega) (by omega)) (zTs x4) (by omega) (by omega)) (by omega) (by omega)
              refine zk_in z47 ?_
              refine zk_let (fun σ10 q50 => ?_)
              have hS48 : IMc σ10 := by rw [q50]; exact IMc.up hS38 (zTs 0) trivial
              have hH49 : hi σ σ10 := by rw [q50]; exact hi.upo hH39 rfl
              exact ih69_ (x4 + 1) σ10 ⟨hS48, hH49, (by rw [zTe (zTadd (zTs x4) (zTl zt_1) (by omega) (by omega))]; omega), (by rw [zTe (zTadd (zTs x4) (zTl zt_1) (by omega) (by omega))]; omega)⟩ (by show (24 - (x4 + 1).toInt).toNat < (24 - x4.toInt).toNat; rw [zTe (zTadd (zTs x4) (zTl zt_1) (by omega) (by omega))]; omega)
          · have g51 := znle h32
            unfold B_X7_sheet_65
            refine zk_in z28 ?_
            refine zk_let (fun σ21 q54 => ?_)
            have hS52 : IMc σ21 := by rw [q54]; exact IMc.up hS29 (zTl zt_0) ⟨by omega, by omega⟩
            have hH53 : hi σ σ21 := by rw [q54]; exact hi.upo hH30 rfl
            unfold L_X7_sheet_69
            refine zl_I (fun (x4 : Int32) (s69_ : zg_S) => IMc s69_ ∧ hi σ s69_ ∧ 0 ≤ x4.toInt ∧ x4.toInt ≤ 24) (fun (x4 : Int32) (s69_ : zg_S) => (24 - x4.toInt).toNat) ?_ zfu 0 σ21 ⟨hS52, hH53, (by omega), (by omega)⟩ (by unfold zfu; omega)
            intro rec69_ x4 s69_ hI55 ih69_
            obtain ⟨hS56, hH57, i58, i59⟩ := hI55
            unfold B_X7_sheet_69
            refine zk_ite (fun h60 => ?_) (fun h60 => ?_)
            · have g61 := zle h60
              have e62 := zt_24
              refine zk_in z28 ?_
              exact zk_some ⟨hS56, hH57⟩
            · have g63 := znle h60
              have e64 := zt_24
              have z65 : zin ((24 * a1) + x4) 96 = true := zin_mkT (zTadd (zTmul (zTl zt_24) (zTs a1) (by omega) (by omega)) (zTs x4) (by omega) (by omega)) (by omega) (by omega)
              refine zk_in z65 ?_
              refine zk_let (fun σ10 q68 => ?_)
              have hS66 : IMc σ10 := by rw [q68]; exact IMc.up hS56 (zTs 0) trivial
              have hH67 : hi σ σ10 := by rw [q68]; exact hi.upo hH57 rfl
              exact ih69_ (x4 + 1) σ10 ⟨hS66, hH67, (by rw [zTe (zTadd (zTs x4) (zTl zt_1) (by omega) (by omega))]; omega), (by rw [zTe (zTadd (zTs x4) (zTl zt_1) (by omega) (by omega))]; omega)⟩ (by show (24 - (x4 + 1).toInt).toNat < (24 - x4.toInt).toNat; rw [zTe (zTadd (zTs x4) (zTl zt_1) (by omega) (by omega))]; omega)
        · have g69 := znlt h26
          refine zk_ite (fun h70 => ?_) (fun h70 => ?_)
          · have g71 := zle h70
            unfold B_X7_sheet_44
            have z72 : zin a1 4 = true := zin_mkT (zTs a1) (by omega) (by omega)
            refine zk_in z72 ?_
            refine zk_let (fun σ32 q75 => ?_)
            have hS73 : IMc σ32 := by rw [q75]; exact IMc.up hσ (zTs a2) trivial
            have hH74 : hi σ σ32 := by rw [q75]; exact hi.upo hi.rf rfl
            refine zk_ite (fun h76 => ?_) (fun h76 => ?_)
            · have g77 := zle h76
              unfold B_X7_sheet_65
              refine zk_in z72 ?_
              refine zk_let (fun σ21 q80 => ?_)
              have hS78 : IMc σ21 := by rw [q80]; exact IMc.up hS73 (zTs a3) ⟨by omega, by omega⟩
              have hH79 : hi σ σ21 := by rw [q80]; exact hi.upo hH74 rfl
              unfold L_X7_sheet_69
              refine zl_I (fun (x4 : Int32) (s69_ : zg_S) => IMc s69_ ∧ hi σ s69_ ∧ 0 ≤ x4.toInt ∧ x4.toInt ≤ 24) (fun (x4 : Int32) (s69_ : zg_S) => (24 - x4.toInt).toNat) ?_ zfu 0 σ21 ⟨hS78, hH79, (by omega), (by omega)⟩ (by unfold zfu; omega)
              intro rec69_ x4 s69_ hI81 ih69_
              obtain ⟨hS82, hH83, i84, i85⟩ := hI81
              unfold B_X7_sheet_69
              refine zk_ite (fun h86 => ?_) (fun h86 => ?_)
              · have g87 := zle h86
                have e88 := zt_24
                refine zk_in z72 ?_
                exact zk_some ⟨hS82, hH83⟩
              · have g89 := znle h86
                have e90 := zt_24
                have z91 : zin ((24 * a1) + x4) 96 = true := zin_mkT (zTadd (zTmul (zTl zt_24) (zTs a1) (by omega) (by omega)) (zTs x4) (by omega) (by omega)) (by omega) (by omega)
                refine zk_in z91 ?_
                refine zk_let (fun σ10 q94 => ?_)
                have hS92 : IMc σ10 := by rw [q94]; exact IMc.up hS82 (zTs 0) trivial
                have hH93 : hi σ σ10 := by rw [q94]; exact hi.upo hH83 rfl
                exact ih69_ (x4 + 1) σ10 ⟨hS92, hH93, (by rw [zTe (zTadd (zTs x4) (zTl zt_1) (by omega) (by omega))]; omega), (by rw [zTe (zTadd (zTs x4) (zTl zt_1) (by omega) (by omega))]; omega)⟩ (by show (24 - (x4 + 1).toInt).toNat < (24 - x4.toInt).toNat; rw [zTe (zTadd (zTs x4) (zTl zt_1) (by omega) (by omega))]; omega)
            · have g95 := znle h76
              unfold B_X7_sheet_65
              refine zk_in z72 ?_
              refine zk_let (fun σ21 q98 => ?_)
              have hS96 : IMc σ21 := by rw [q98]; exact IMc.up hS73 (zTl zt_0) ⟨by omega, by omega⟩
              have hH97 : hi σ σ21 := by rw [q98]; exact hi.upo hH74 rfl
              unfold L_X7_sheet_69
              refine zl_I (fun (x4 : Int32) (s69_ : zg_S) => IMc s69_ ∧ hi σ s69_ ∧ 0 ≤ x4.toInt ∧ x4.toInt ≤ 24) (fun (x4 : Int32) (s69_ : zg_S) => (24 - x4.toInt).toNat) ?_ zfu 0 σ21 ⟨hS96, hH97, (by omega), (by omega)⟩ (by unfold zfu; omega)
              intro rec69_ x4 s69_ hI99 ih69_
              obtain ⟨hS100, hH101, i102, i103⟩ := hI99
              unfold B_X7_sheet_69
              refine zk_ite (fun h104 => ?_) (fun h104 => ?_)
              · have g105 := zle h104
                have e106 := zt_24
                refine zk_in z72 ?_
                exact zk_some ⟨hS100, hH101⟩
              · have g107 := znle h104
                have e108 := zt_24
                have z109 : zin ((24 * a1) + x4) 96 = true := zin_mkT (zTadd (zTmul (zTl zt_24) (zTs a1) (by omega) (by omega)) (zTs x4) (by omega) (by omega)) (by omega) (by omega)
                refine zk_in z109 ?_
                refine zk_let (fun σ10 q112 => ?_)
                have hS110 : IMc σ10 := by rw [q112]; exact IMc.up hS100 (zTs 0) trivial
                have hH111 : hi σ σ10 := by rw [q112]; exact hi.upo hH101 rfl
                exact ih69_ (x4 + 1) σ10 ⟨hS110, hH111, (by rw [zTe (zTadd (zTs x4) (zTl zt_1) (by omega) (by omega))]; omega), (by rw [zTe (zTadd (zTs x4) (zTl zt_1) (by omega) (by omega))]; omega)⟩ (by show (24 - (x4 + 1).toInt).toNat < (24 - x4.toInt).toNat; rw [zTe (zTadd (zTs x4) (zTl zt_1) (by omega) (by omega))]; omega)
          · have g113 := znle h70
            exact zk_some ⟨hσ, hi.rf⟩
      · have g114 := znlt h24
        refine zk_ite (fun h115 => ?_) (fun h115 => ?_)
        · have g116 := zle h115
          have e117 := zt_24
          unfold B_X7_sheet_32
          refine zk_ite (fun h118 => ?_) (fun h118 => ?_)
          · have g119 := zlt h118
            unfold B_X7_sheet_44
            have z120 : zin a1 4 = true := zin_mkT (zTs a1) (by omega) (by omega)
            refine zk_in z120 ?_
            refine zk_let (fun σ32 q123 => ?_)
            have hS121 : IMc σ32 := by rw [q123]; exact IMc.up hσ (zTs a2) trivial
            have hH122 : hi σ σ32 := by rw [q123]; exact hi.upo hi.rf rfl
            refine zk_ite (fun h124 => ?_) (fun h124 => ?_)
            · have g125 := zle h124
              unfold B_X7_sheet_65
              refine zk_in z120 ?_
              refine zk_let (fun σ21 q128 => ?_)
              have hS126 : IMc σ21 := by rw [q128]; exact IMc.up hS121 (zTs a3) ⟨by omega, by omega⟩
              have hH127 : hi σ σ21 := by rw [q128]; exact hi.upo hH122 rfl
              unfold L_X7_sheet_69
              refine zl_I (fun (x4 : Int32) (s69_ : zg_S) => IMc s69_ ∧ hi σ s69_ ∧ 0 ≤ x4.toInt ∧ x4.toInt ≤ 24) (fun (x4 : Int32) (s69_ : zg_S) => (24 - x4.toInt).toNat) ?_ zfu 0 σ21 ⟨hS126, hH127, (by omega), (by omega)⟩ (by unfold zfu; omega)
              intro rec69_ x4 s69_ hI129 ih69_
              obtain ⟨hS130, hH131, i132, i133⟩ := hI129
              unfold B_X7_sheet_69
              refine zk_ite (fun h134 => ?_) (fun h134 => ?_)
              · have g135 := zle h134
                have e136 := zt_24
                refine zk_in z120 ?_
                exact zk_some ⟨hS130, hH131⟩
              · have g137 := znle h134
                have e138 := zt_24
                have z139 : zin ((24 * a1) + x4) 96 = true := zin_mkT (zTadd (zTmul (zTl zt_24) (zTs a1) (by omega) (by omega)) (zTs x4) (by omega) (by omega)) (by omega) (by omega)
                refine zk_in z139 ?_
                refine zk_let (fun σ10 q142 => ?_)
                have hS140 : IMc σ10 := by rw [q142]; exact IMc.up hS130 (zTs 0) trivial
                have hH141 : hi σ σ10 := by rw [q142]; exact hi.upo hH131 rfl
                exact ih69_ (x4 + 1) σ10 ⟨hS140, hH141, (by rw [zTe (zTadd (zTs x4) (zTl zt_1) (by omega) (by omega))]; omega), (by rw [zTe (zTadd (zTs x4) (zTl zt_1) (by omega) (by omega))]; omega)⟩ (by show (24 - (x4 + 1).toInt).toNat < (24 - x4.toInt).toNat; rw [zTe (zTadd (zTs x4) (zTl zt_1) (by omega) (by omega))]; omega)
            · have g143 := znle h124
              unfold B_X7_sheet_65
              refine zk_in z120 ?_
              refine zk_let (fun σ21 q146 => ?_)
              have hS144 : IMc σ21 := by rw [q146]; exact IMc.up hS121 (zTl zt_0) ⟨by omega, by omega⟩
              have hH145 : hi σ σ21 := by rw [q146]; exact hi.upo hH122 rfl
              unfold L_X7_sheet_69
              refine zl_I (fun (x4 : Int32) (s69_ : zg_S) => IMc s69_ ∧ hi σ s69_ ∧ 0 ≤ x4.toInt ∧ x4.toInt ≤ 24) (fun (x4 : Int32) (s69_ : zg_S) => (24 - x4.toInt).toNat) ?_ zfu 0 σ21 ⟨hS144, hH145, (by omega), (by omega)⟩ (by unfold zfu; omega)
              intro rec69_ x4 s69_ hI147 ih69_
              obtain ⟨hS148, hH149, i150, i151⟩ := hI147
              unfold B_X7_sheet_69
              refine zk_ite (fun h152 => ?_) (fun h152 => ?_)
              · have g153 := zle h152
                have e154 := zt_24
                refine zk_in z120 ?_
                exact zk_some ⟨hS148, hH149⟩
              · have g155 := znle h152
                have e156 := zt_24
                have z157 : zin ((24 * a1) + x4) 96 = true := zin_mkT (zTadd (zTmul (zTl zt_24) (zTs a1) (by omega) (by omega)) (zTs x4) (by omega) (by omega)) (by omega) (by omega)
                refine zk_in z157 ?_
                refine zk_let (fun σ10 q160 => ?_)
                have hS158 : IMc σ10 := by rw [q160]; exact IMc.up hS148 (zTs 0) trivial
                have hH159 : hi σ σ10 := by rw [q160]; exact hi.upo hH149 rfl
                exact ih69_ (x4 + 1) σ10 ⟨hS158, hH159, (by rw [zTe (zTadd (zTs x4) (zTl zt_1) (by omega) (by omega))]; omega), (by rw [zTe (zTadd (zTs x4) (zTl zt_1) (by omega) (by omega))]; omega)⟩ (by show (24 - (x4 + 1).toInt).toNat < (24 - x4.toInt).toNat; rw [zTe (zTadd (zTs x4) (zTl zt_1) (by omega) (by omega))]; omega)
          · have g161 := znlt h118
            refine zk_ite (fun h162 => ?_) (fun h162 => ?_)
            · have g163 := zle h162
              unfold B_X7_sheet_44
              have z164 : zin a1 4 = true := zin_mkT (zTs a1) (by omega) (by omega)
              refine zk_in z164 ?_
              refine zk_let (fun σ32 q167 => ?_)
              have hS165 : IMc σ32 := by rw [q167]; exact IMc.up hσ (zTs a2) trivial
              have hH166 : hi σ σ32 := by rw [q167]; exact hi.upo hi.rf rfl
              refine zk_ite (fun h168 => ?_) (fun h168 => ?_)
              · have g169 := zle h168
                unfold B_X7_sheet_65
                refine zk_in z164 ?_
                refine zk_let (fun σ21 q172 => ?_)
                have hS170 : IMc σ21 := by rw [q172]; exact IMc.up hS165 (zTs a3) ⟨by omega, by omega⟩
                have hH171 : hi σ σ21 := by rw [q172]; exact hi.upo hH166 rfl
                unfold L_X7_sheet_69
                refine zl_I (fun (x4 : Int32) (s69_ : zg_S) => IMc s69_ ∧ hi σ s69_ ∧ 0 ≤ x4.toInt ∧ x4.toInt ≤ 24) (fun (x4 : Int32) (s69_ : zg_S) => (24 - x4.toInt).toNat) ?_ zfu 0 σ21 ⟨hS170, hH171, (by omega), (by omega)⟩ (by unfold zfu; omega)
                intro rec69_ x4 s69_ hI173 ih69_
                obtain ⟨hS174, hH175, i176, i177⟩ := hI173
                unfold B_X7_sheet_69
                refine zk_ite (fun h178 => ?_) (fun h178 => ?_)
                · have g179 := zle h178
                  have e180 := zt_24
                  refine zk_in z164 ?_
                  exact zk_some ⟨hS174, hH175⟩
                · have g181 := znle h178
                  have e182 := zt_24
                  have z183 : zin ((24 * a1) + x4) 96 = true := zin_mkT (zTadd (zTmul (zTl zt_24) (zTs a1) (by omega) (by omega)) (zTs x4) (by omega) (by omega)) (by omega) (by omega)
                  refine zk_in z183 ?_
                  refine zk_let (fun σ10 q186 => ?_)
                  have hS184 : IMc σ10 := by rw [q186]; exact IMc.up hS174 (zTs 0) trivial
                  have hH185 : hi σ σ10 := by rw [q186]; exact hi.upo hH175 rfl
                  exact ih69_ (x4 + 1) σ10 ⟨hS184, hH185, (by rw [zTe (zTadd (zTs x4) (zTl zt_1) (by omega) (by omega))]; omega), (by rw [zTe (zTadd (zTs x4) (zTl zt_1) (by omega) (by omega))]; omega)⟩ (by show (24 - (x4 + 1).toInt).toNat < (24 - x4.toInt).toNat; rw [zTe (zTadd (zTs x4) (zTl zt_1) (by omega) (by omega))]; omega)
              · have g187 := znle h168
                unfold B_X7_sheet_65
                refine zk_in z164 ?_
                refine zk_let (fun σ21 q190 => ?_)
                have hS188 : IMc σ21 := by rw [q190]; exact IMc.up hS165 (zTl zt_0) ⟨by omega, by omega⟩
                have hH189 : hi σ σ21 := by rw [q190]; exact hi.upo hH166 rfl
                unfold L_X7_sheet_69
                refine zl_I (fun (x4 : Int32) (s69_ : zg_S) => IMc s69_ ∧ hi σ s69_ ∧ 0 ≤ x4.toInt ∧ x4.toInt ≤ 24) (fun (x4 : Int32) (s69_ : zg_S) => (24 - x4.toInt).toNat) ?_ zfu 0 σ21 ⟨hS188, hH189, (by omega), (by omega)⟩ (by unfold zfu; omega)
                intro rec69_ x4 s69_ hI191 ih69_
                obtain ⟨hS192, hH193, i194, i195⟩ := hI191
                unfold B_X7_sheet_69
                refine zk_ite (fun h196 => ?_) (fun h196 => ?_)
                · have g197 := zle h196
                  have e198 := zt_24
                  refine zk_in z164 ?_
                  exact zk_some ⟨hS192, hH193⟩
                · have g199 := znle h196
                  have e200 := zt_24
                  have z201 : zin ((24 * a1) + x4) 96 = true := zin_mkT (zTadd (zTmul (zTl zt_24) (zTs a1) (by omega) (by omega)) (zTs x4) (by omega) (by omega)) (by omega) (by omega)
                  refine zk_in z201 ?_
                  refine zk_let (fun σ10 q204 => ?_)
                  have hS202 : IMc σ10 := by rw [q204]; exact IMc.up hS192 (zTs 0) trivial
                  have hH203 : hi σ σ10 := by rw [q204]; exact hi.upo hH193 rfl
                  exact ih69_ (x4 + 1) σ10 ⟨hS202, hH203, (by rw [zTe (zTadd (zTs x4) (zTl zt_1) (by omega) (by omega))]; omega), (by rw [zTe (zTadd (zTs x4) (zTl zt_1) (by omega) (by omega))]; omega)⟩ (by show (24 - (x4 + 1).toInt).toNat < (24 - x4.toInt).toNat; rw [zTe (zTadd (zTs x4) (zTl zt_1) (by omega) (by omega))]; omega)
            · have g205 := znle h162
              exact zk_some ⟨hσ, hi.rf⟩
        · have g206 := znle h115
          have e207 := zt_24
          exact zk_some ⟨hσ, hi.rf⟩

