set_option maxHeartbeats 400000 in
theorem s_X7_goesOnBy (a1 : Int32) (σ : zg_S) (hσ : IMc σ) (hW : WF (σ 1)) : zk (f_X7_goesOnBy a1 σ) (fun r s => IMc s ∧ hi σ s) := by
  unfold f_X7_goesOnBy
  refine zk_let (fun σ114 q3 => ?_)
  have hS1 : IMc σ114 := by rw [q3]; exact IMc.up hσ (zTs ((σ 1 7) + a1)) trivial
  have hH2 : hi σ σ114 := by rw [q3]; exact hi.up1 hi.rf (by decide) (by decide)
  refine zk_call (s_X7_holds σ114 hS1 ) (fun r120 σ121 hp4 => ?_)
  obtain ⟨hS5, hH6⟩ := hp4
  have e7 := zt_0
  unfold L_X7_goesOnBy_17
  refine zl_I (fun (x2 : Int32) (s17_ : zg_S) => IMc s17_ ∧ hi σ s17_ ∧ 0 ≤ x2.toInt ∧ x2.toInt ≤ 9) (fun (x2 : Int32) (s17_ : zg_S) => (9 - x2.toInt).toNat) ?_ zfu 0 σ121 ⟨hS5, (hH2.tr hH6), (by omega), (by omega)⟩ (by unfold zfu; omega)
  intro rec17_ x2 s17_ hI8 ih17_
  obtain ⟨hS9, hH10, i11, i12⟩ := hI8
  unfold B_X7_goesOnBy_17
  refine zk_ite (fun h13 => ?_) (fun h13 => ?_)
  · have g14 := zle h13
    have f15 : 0 ≤ (s17_ 1 0).toInt ∧ (s17_ 1 0).toInt ≤ 9 := IMf hS9 1 0
    refine zk_call (s_X7_drawn s17_ hS9 ) (fun r29 σ30 hp16 => ?_)
    obtain ⟨hS18, hH19, x17⟩ := hp16
    refine zk_ite (fun h20 => ?_) (fun h20 => ?_)
    · have g21 := zle h20
      unfold B_X7_goesOnBy_149
      refine zk_let (fun σ1 q24 => ?_)
      have hS22 : IMc σ1 := by rw [q24]; exact IMc.up hS18 (zTs ((σ30 1 2) + 1)) trivial
      have hH23 : hi σ σ1 := by rw [q24]; exact hi.up1 (hH10.tr hH19) (by decide) (by decide)
      exact zk_some ⟨hS22, hH23⟩
    · have g25 := znle h20
      refine zk_call (s_X7_drawn σ30 hS18 ) (fun r39 σ40 hp26 => ?_)
      obtain ⟨hS28, hH29, x27⟩ := hp26
      refine zk_let (fun y48 ey30 => ?_)
      refine zk_let (fun σ51 q33 => ?_)
      have hS31 : IMc σ51 := by rw [q33]; exact IMc.up hS28 (zTs y48) trivial
      have hH32 : hi σ σ51 := by rw [q33]; exact hi.up1 ((hH10.tr hH19).tr hH29) (by decide) (by decide)
      refine zk_call (s_X7_holds σ51 hS31 ) (fun r57 σ58 hp34 => ?_)
      obtain ⟨hS35, hH36⟩ := hp34
      refine zk_ite (fun h37 => ?_) (fun h37 => ?_)
      · have g38 := zeq h37
        have e39 := zt_0
        unfold B_X7_goesOnBy_147
        have z40 : zin 5 3047 = true := zin_mkT (zTl zt_5) (by omega) (by omega)
        refine zk_in z40 ?_
        refine zk_let (fun σ10 q43 => ?_)
        have hS41 : IMc σ10 := by rw [q43]; exact IMc.up hS35 (zTs ((σ58 1 5) + 0)) (mcon1 (zTge (zTl zt_5) (by omega)))
        have hH42 : hi σ σ10 := by rw [q43]; exact hi.up1 (hH32.tr hH36) (zTge (zTl zt_5) (by omega)) (zTlt (zTl zt_5) (by omega) (by omega))
        unfold B_X7_goesOnBy_149
        refine zk_let (fun σ1 q46 => ?_)
        have hS44 : IMc σ1 := by rw [q46]; exact IMc.up hS41 (zTs ((σ10 1 2) + 1)) trivial
        have hH45 : hi σ σ1 := by rw [q46]; exact hi.up1 hH42 (by decide) (by decide)
        exact zk_some ⟨hS44, hH45⟩
      · have g47 := zne h37
        have e48 := zt_0
        unfold B_X7_goesOnBy_147
        have z49 : zin 5 3047 = true := zin_mkT (zTl zt_5) (by omega) (by omega)
        refine zk_in z49 ?_
        refine zk_let (fun σ10 q52 => ?_)
        have hS50 : IMc σ10 := by rw [q52]; exact IMc.up hS35 (zTs ((σ58 1 5) + 1)) (mcon1 (zTge (zTl zt_5) (by omega)))
        have hH51 : hi σ σ10 := by rw [q52]; exact hi.up1 (hH32.tr hH36) (zTge (zTl zt_5) (by omega)) (zTlt (zTl zt_5) (by omega) (by omega))
        unfold B_X7_goesOnBy_149
        refine zk_let (fun σ1 q55 => ?_)
        have hS53 : IMc σ1 := by rw [q55]; exact IMc.up hS50 (zTs ((σ10 1 2) + 1)) trivial
        have hH54 : hi σ σ1 := by rw [q55]; exact hi.up1 hH51 (by decide) (by decide)
        exact zk_some ⟨hS53, hH54⟩
  · have g56 := znle h13
    have f57 : 0 ≤ (s17_ 1 0).toInt ∧ (s17_ 1 0).toInt ≤ 9 := IMf hS9 1 0
    refine zk_call (s_X7_spoils x2 s17_ hS9 (WF.hi hW hH10) (by omega) (by omega)) (fun r68 σ69 hp58 => ?_)
    obtain ⟨hS59, hH60⟩ := hp58
    refine zk_let (fun σ77 q63 => ?_)
    have hS61 : IMc σ77 := by rw [q63]; exact IMc.up hS59 (zTs ((σ69 1 4) + r68)) trivial
    have hH62 : hi σ σ77 := by rw [q63]; exact hi.up1 (hH10.tr hH60) (by decide) (by decide)
    have e64 := zt_2
    refine zk_call (s_X7_of x2 2 σ77 hS61 (by omega) (by omega) (by omega) (by omega)) (fun r83 σ84 hp65 => ?_)
    subst hp65
    refine zk_call (s_X7_sets x2 2 (r83 - r68) σ77 hS61 (by omega) (by omega) (by omega) (by omega)) (fun r90 σ91 hp66 => ?_)
    obtain ⟨hS67, hH68⟩ := hp66
    refine zk_call (s_X7_isShaded x2 σ91 hS67 (by omega) (by omega)) (fun r97 σ98 hp69 => ?_)
    obtain ⟨rfl, x70⟩ := hp69
    refine zk_ite (fun h71 => ?_) (fun h71 => ?_)
    · have g72 := zeq h71
      have e73 := zt_0
      unfold B_X7_goesOnBy_82
      have z74 : zin 3 3047 = true := zin_mkT (zTl zt_3) (by omega) (by omega)
      refine zk_in z74 ?_
      refine zk_let (fun σ19 q77 => ?_)
      have hS75 : IMc σ19 := by rw [q77]; exact IMc.up hS67 (zTs ((σ91 1 3) + 0)) (mcon1 (zTge (zTl zt_3) (by omega)))
      have hH76 : hi σ σ19 := by rw [q77]; exact hi.up1 (hH62.tr hH68) (zTge (zTl zt_3) (by omega)) (zTlt (zTl zt_3) (by omega) (by omega))
      exact ih17_ (x2 + 1) σ19 ⟨hS75, hH76, (by rw [zTe (zTadd (zTs x2) (zTl zt_1) (by omega) (by omega))]; omega), (by rw [zTe (zTadd (zTs x2) (zTl zt_1) (by omega) (by omega))]; omega)⟩ (by show (9 - (x2 + 1).toInt).toNat < (9 - x2.toInt).toNat; rw [zTe (zTadd (zTs x2) (zTl zt_1) (by omega) (by omega))]; omega)
    · have g78 := zne h71
      have e79 := zt_0
      have e80 := zt_3
      refine zk_call (s_X7_of x2 3 σ91 hS67 (by omega) (by omega) (by omega) (by omega)) (fun r107 σ108 hp81 => ?_)
      subst hp81
      unfold B_X7_goesOnBy_82
      have z82 : zin 3 3047 = true := zin_mkT (zTl zt_3) (by omega) (by omega)
      refine zk_in z82 ?_
      refine zk_let (fun σ19 q85 => ?_)
      have hS83 : IMc σ19 := by rw [q85]; exact IMc.up hS67 (zTs ((σ91 1 3) + r107)) (mcon1 (zTge (zTl zt_3) (by omega)))
      have hH84 : hi σ σ19 := by rw [q85]; exact hi.up1 (hH62.tr hH68) (zTge (zTl zt_3) (by omega)) (zTlt (zTl zt_3) (by omega) (by omega))
      exact ih17_ (x2 + 1) σ19 ⟨hS83, hH84, (by rw [zTe (zTadd (zTs x2) (zTl zt_1) (by omega) (by omega))]; omega), (by rw [zTe (zTadd (zTs x2) (zTl zt_1) (by omega) (by omega))]; omega)⟩ (by show (9 - (x2 + 1).toInt).toNat < (9 - x2.toInt).toNat; rw [zTe (zTadd (zTs x2) (zTl zt_1) (by omega) (by omega))]; omega)

set_option maxHeartbeats 400000 in
theorem s_X7_goesOn  (σ : zg_S) (hσ : IMc σ) (hW : WF (σ 1)) : zk (f_X7_goesOn  σ) (fun r s => IMc s ∧ hi σ s) := by
  unfold f_X7_goesOn
  refine zk_call (s_X7_hauls σ hσ (WF.hi hW hi.rf)) (fun r1 σ2 hp1 => ?_)
  obtain ⟨hS2, hH3⟩ := hp1
  refine zk_call (s_X7_goesOnBy r1 σ2 hS2 (WF.hi hW (hi.rf.tr hH3))) (fun r8 σ9 hp4 => ?_)
  obtain ⟨hS5, hH6⟩ := hp4
  exact zk_some ⟨hS5, ((hi.rf.tr hH3).tr hH6)⟩

set_option maxHeartbeats 400000 in
theorem s_X7_goesOnMany (a1 : Int32) (σ : zg_S) (hσ : IMc σ) (hW : WF (σ 1)) (hp0_ : a1.toInt ≤ 100) : zk (f_X7_goesOnMany a1 σ) (fun r s => IMc s ∧ hi σ s) := by
  unfold f_X7_goesOnMany
  have e1 := zt_0
  unfold L_X7_goesOnMany_2
  refine zl_I (fun (x2 : Int32) (s2_ : zg_S) => IMc s2_ ∧ hi σ s2_ ∧ 0 ≤ x2.toInt ∧ x2.toInt ≤ 100) (fun (x2 : Int32) (s2_ : zg_S) => (100 - x2.toInt).toNat) ?_ zfu 0 σ ⟨hσ, hi.rf, (by omega), (by omega)⟩ (by unfold zfu; omega)
  intro rec2_ x2 s2_ hI2 ih2_
  obtain ⟨hS3, hH4, i5, i6⟩ := hI2
  unfold B_X7_goesOnMany_2
  refine zk_ite (fun h7 => ?_) (fun h7 => ?_)
  · have g8 := zle h7
    exact zk_some ⟨hS3, hH4⟩
  · have g9 := znle h7
    refine zk_call (s_X7_goesOn s2_ hS3 (WF.hi hW hH4)) (fun r4 σ5 hp10 => ?_)
    obtain ⟨hS11, hH12⟩ := hp10
    exact ih2_ (x2 + 1) σ5 ⟨hS11, (hH4.tr hH12), (by rw [zTe (zTadd (zTs x2) (zTl zt_1) (by omega) (by omega))]; omega), (by rw [zTe (zTadd (zTs x2) (zTl zt_1) (by omega) (by omega))]; omega)⟩ (by show (100 - (x2 + 1).toInt).toNat < (100 - x2.toInt).toNat; rw [zTe (zTadd (zTs x2) (zTl zt_1) (by omega) (by omega))]; omega)

set_option maxHeartbeats 400000 in
theorem s_X7_book (a1 : Int32) (σ : zg_S) (hσ : IMc σ)  : zk (f_X7_book a1 σ) (fun r s => σ = s) := by
  unfold f_X7_book
  refine zk_ite (fun h1 => ?_) (fun h1 => ?_)
  · have g2 := zeq h1
    have e3 := zt_0
    exact zk_some rfl
  · have g4 := zne h1
    have e5 := zt_0
    refine zk_ite (fun h6 => ?_) (fun h6 => ?_)
    · have g7 := zeq h6
      have e8 := zt_1
      exact zk_some rfl
    · have g9 := zne h6
      have e10 := zt_1
      refine zk_ite (fun h11 => ?_) (fun h11 => ?_)
      · have g12 := zeq h11
        have e13 := zt_2
        exact zk_some rfl
      · have g14 := zne h11
        have e15 := zt_2
        refine zk_ite (fun h16 => ?_) (fun h16 => ?_)
        · have g17 := zeq h16
          have e18 := zt_3
          unfold L_X7_book_63
          refine zl_II (fun (x2 : Int32) (x3 : Int32) (s63_ : zg_S) => σ = s63_ ∧ 0 ≤ x3.toInt ∧ x3.toInt ≤ 9) (fun (x2 : Int32) (x3 : Int32) (s63_ : zg_S) => (9 - x3.toInt).toNat) ?_ zfu 0 0 σ ⟨rfl, (by omega), (by omega)⟩ (by unfold zfu; omega)
          intro rec63_ x2 x3 s63_ hI19 ih63_
          obtain ⟨rfl, i20, i21⟩ := hI19
          unfold B_X7_book_63
          refine zk_ite (fun h22 => ?_) (fun h22 => ?_)
          · have g23 := zle h22
            have f24 : 0 ≤ (σ 1 0).toInt ∧ (σ 1 0).toInt ≤ 9 := IMf hσ 1 0
            exact zk_some rfl
          · have g25 := znle h22
            have f26 : 0 ≤ (σ 1 0).toInt ∧ (σ 1 0).toInt ≤ 9 := IMf hσ 1 0
            have e27 := zt_2
            refine zk_call (s_X7_of x3 2 σ hσ (by omega) (by omega) (by omega) (by omega)) (fun r4 σ5 hp28 => ?_)
            subst hp28
            exact ih63_ (x2 + r4) (x3 + 1) σ ⟨rfl, (by rw [zTe (zTadd (zTs x3) (zTl zt_1) (by omega) (by omega))]; omega), (by rw [zTe (zTadd (zTs x3) (zTl zt_1) (by omega) (by omega))]; omega)⟩ (by show (9 - (x3 + 1).toInt).toNat < (9 - x3.toInt).toNat; rw [zTe (zTadd (zTs x3) (zTl zt_1) (by omega) (by omega))]; omega)
        · have g29 := zne h16
          have e30 := zt_3
          exact zk_some rfl

set_option maxHeartbeats 400000 in
theorem s_X7_isLetter (a1 : Int32) (σ : zg_S) (hσ : IMc σ) (hp0_ : 0 ≤ a1.toInt) : zk (f_X7_isLetter a1 σ) (fun r s => σ = s ∧ (r = 0 ∨ (r = 1 ∧ 0 ≤ a1.toInt ∧ a1.toInt < (σ 0 14).toInt))) := by
  unfold f_X7_isLetter
  refine zk_ite (fun h1 => ?_) (fun h1 => ?_)
  · have g2 := zle h1
    have f3 : 0 ≤ (σ 0 14).toInt ∧ (σ 0 14).toInt ≤ 96 := IMf hσ 0 14
    have e4 := zt_0
    exact zk_some ⟨rfl, (by first | exact Or.inl rfl | exact Or.inr rfl | assumption | omega | exact Or.inr ⟨rfl, by omega, by omega⟩ | exact Or.inr ⟨by omega, by omega⟩)⟩
  · have g5 := znle h1
    have f6 : 0 ≤ (σ 0 14).toInt ∧ (σ 0 14).toInt ≤ 96 := IMf hσ 0 14
    have z7 : zin a1 96 = true := zin_mkT (zTs a1) (by omega) (by omega)
    refine zk_in z7 ?_
    have j8 := zI64 (σ 13 (Int32.toNatClampNeg a1))
    have j9 := zI64 97
    have e10 := zt_97
    have j11 := zI64 122
    have e12 := zt_122
    refine zk_call (s_X7_isIn (Int32.toInt64 (σ 13 (Int32.toNatClampNeg a1))) (Int32.toInt64 97) (Int32.toInt64 122) σ hσ ) (fun r7 σ8 hp13 => ?_)
    obtain ⟨rfl, x14⟩ := hp13
    refine zk_ite (fun h18 => ?_) (fun h18 => ?_)
    · have g19 := zeq h18
      have e20 := zt_0
      exact zk_some ⟨rfl, (by first | exact Or.inl rfl | exact Or.inr rfl | assumption | omega | exact Or.inr ⟨rfl, by omega, by omega⟩ | exact Or.inr ⟨by omega, by omega⟩)⟩
    · have g21 := zne h18
      have e22 := zt_0
      obtain ⟨_d15, _d16, _d17⟩ := x14.resolve_left h18
      have e23 := zt_1
      exact zk_some ⟨rfl, (by first | exact Or.inl rfl | exact Or.inr rfl | assumption | omega | exact Or.inr ⟨rfl, by omega, by omega⟩ | exact Or.inr ⟨by omega, by omega⟩)⟩

set_option maxHeartbeats 400000 in
theorem s_X7_isDigit (a1 : Int32) (σ : zg_S) (hσ : IMc σ) (hp0_ : 0 ≤ a1.toInt) : zk (f_X7_isDigit a1 σ) (fun r s => σ = s ∧ (r = 0 ∨ (r = 1 ∧ 0 ≤ a1.toInt ∧ a1.toInt < (σ 0 14).toInt))) := by
  unfold f_X7_isDigit
  refine zk_ite (fun h1 => ?_) (fun h1 => ?_)
  · have g2 := zle h1
    have f3 : 0 ≤ (σ 0 14).toInt ∧ (σ 0 14).toInt ≤ 96 := IMf hσ 0 14
    have e4 := zt_0
    exact zk_some ⟨rfl, (by first | exact Or.inl rfl | exact Or.inr rfl | assumption | omega | exact Or.inr ⟨rfl, by omega, by omega⟩ | exact Or.inr ⟨by omega, by omega⟩)⟩
  · have g5 := znle h1
    have f6 : 0 ≤ (σ 0 14).toInt ∧ (σ 0 14).toInt ≤ 96 := IMf hσ 0 14
    have z7 : zin a1 96 = true := zin_mkT (zTs a1) (by omega) (by omega)
    refine zk_in z7 ?_
    have j8 := zI64 (σ 13 (Int32.toNatClampNeg a1))
    have j9 := zI64 48
    have e10 := zt_48
    have j11 := zI64 57
    have e12 := zt_57
    refine zk_call (s_X7_isIn (Int32.toInt64 (σ 13 (Int32.toNatClampNeg a1))) (Int32.toInt64 48) (Int32.toInt64 57) σ hσ ) (fun r7 σ8 hp13 => ?_)
    obtain ⟨rfl, x14⟩ := hp13
    refine zk_ite (fun h18 => ?_) (fun h18 => ?_)
    · have g19 := zeq h18
      have e20 := zt_0
      exact zk_some ⟨rfl, (by first | exact Or.inl rfl | exact Or.inr rfl | assumption | omega | exact Or.inr ⟨rfl, by omega, by omega⟩ | exact Or.inr ⟨by omega, by omega⟩)⟩
    · have g21 := zne h18
      have e22 := zt_0
      obtain ⟨_d15, _d16, _d17⟩ := x14.resolve_left h18
      have e23 := zt_1
      exact zk_some ⟨rfl, (by first | exact Or.inl rfl | exact Or.inr rfl | assumption | omega | exact Or.inr ⟨rfl, by omega, by omega⟩ | exact Or.inr ⟨by omega, by omega⟩)⟩

