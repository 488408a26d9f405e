theorem k_whose (a1 a2 a3 : Int32) (σ : zg_S) (h : IM σ) : zk (f_X7_whose a1 a2 a3 σ) (fun _ s => s 1 = σ 1) := by
  have e60 := zt_60
  have e1 := zt_1
  have e0 := zt_0
  have e2 := zt_2
  have e3 := zt_3
  have e24 := zt_24
  unfold f_X7_whose
  refine zk_call (s_X7_isSheet a1 σ h.1) (fun r s hp => ?_)
  obtain ⟨rfl, hr⟩ := hp
  refine zk_ite (fun _ => zk_some rfl) (fun hn => ?_)
  obtain ⟨-, g1, g2⟩ := hr.resolve_left hn
  refine zk_call (m_isIn a2 0 60 σ h.1) (fun r s hp => ?_)
  obtain ⟨rfl, hr2⟩ := hp
  refine zk_ite (fun _ => zk_some rfl) (fun hn => ?_)
  obtain ⟨-, -, h2⟩ := hr2.resolve_left hn
  refine zk_call (m_isIn a3 0 1 σ h.1) (fun r s hp => ?_)
  obtain ⟨rfl, hr3⟩ := hp
  refine zk_ite (fun _ => zk_some rfl) (fun hn => ?_)
  have z1 : zin a1 4 = true := zin_mk g1 (by omega)
  refine zk_in z1 ?_
  refine zk_ite (fun _ => ?_) (fun _ => zk_some rfl)
  refine zk_call (m_by σ h.1) (fun _ s3 hp => ?_)
  unfold L_X7_whose_58
  refine zl_III (fun (_ _ x6 : Int32) (s : zg_S) => BY σ s ∧ s 1 = σ 1 ∧ 0 ≤ x6.toInt ∧ x6.toInt ≤ 3) (fun (_ _ x6 : Int32) (_ : zg_S) => (3 - x6.toInt).toNat) ?_ zfu _ _ _ _ ⟨hp.1, hp.2, by omega, by omega⟩ (by unfold zfu; omega)
  intro rec x4 x5 x6 s hI ih
  obtain ⟨b, e, i1, i2⟩ := hI
  unfold B_X7_whose_58
  have hd := e
  refine zk_ite (fun _ => zk_ite (fun _ => zk_some hd) (fun _ => zk_some hd)) (fun hl => ?_)
  have g := znle hl
  have ex := zTe (zTadd (zTs x6) (zTl zt_1) (by omega) (by omega))
  refine zk_let (fun t q => ?_)
  have bt : BY σ t := by rw [q]; exact b.up (by decide) (by decide)
  refine zk_call (m_many a2 σ t h bt (by omega)) (fun _ t2 b2 => ?_)
  unfold L_X7_whose_84
  refine zl_IIIII (fun (_ _ y6 _ x8 : Int32) (s : zg_S) => BY σ s ∧ y6 = x6 ∧ 0 ≤ x8.toInt ∧ x8.toInt ≤ 24) (fun (_ _ _ _ x8 : Int32) (_ : zg_S) => (24 - x8.toInt).toNat) ?_ zfu _ _ _ _ _ _ ⟨b2, rfl, by omega, by omega⟩ (by unfold zfu; omega)
  intro rec2 y4 y5 y6 x7 x8 u hI ih2
  obtain ⟨bu, rfl, j1, j2⟩ := hI
  have f5 : 0 ≤ (u 5 (Int32.toNatClampNeg a1)).toInt ∧ (u 5 (Int32.toNatClampNeg a1)).toInt ≤ 24 := bu.1 5 _
  have f0 : 0 ≤ (u 1 0).toInt ∧ (u 1 0).toInt ≤ 9 := bu.1 1 0
  unfold B_X7_whose_84
  refine zk_in z1 ?_
  refine zk_ite (fun _ => ?_) (fun h8 => ?_)
  · refine zk_call (m_bk σ u bu) (fun _ t3 hp => ?_)
    have ee : ∀ y z, zk (B_X7_whose_182 a1 a2 a3 rec y z y6 t3) (fun _ s => s 1 = σ 1) := fun y z => by
      unfold B_X7_whose_182
      exact ih _ _ (y6 + 1) t3 ⟨hp.1, hp.2, by rw [ex]; omega, by rw [ex]; omega⟩ (by show (3 - (y6 + 1).toInt).toNat < (3 - y6.toInt).toNat; rw [ex]; omega)
    exact zk_ite (fun _ => ee _ _) (fun _ => zk_ite (fun _ => ee _ _) (fun _ => ee _ _))
  · have g8 := znle h8
    refine zk_in (zin_mkT (zTadd (zTmul (zTl zt_24) (zTs a1) (by omega) (by omega)) (zTs x8) (by omega) (by omega)) (by omega) (by omega)) ?_
    refine zk_let (fun v _ => ?_)
    have ex8 := zTe (zTadd (zTs x8) (zTl zt_1) (by omega) (by omega))
    have e9 : ∀ y z, zk (B_X7_whose_149 a1 a2 a3 rec2 y4 y5 y6 x8 y z u) (fun _ s => s 1 = σ 1) := fun y z => by
      unfold B_X7_whose_149
      exact ih2 _ _ y6 _ (x8 + 1) u ⟨bu, rfl, by rw [ex8]; omega, by rw [ex8]; omega⟩ (by show (24 - (x8 + 1).toInt).toNat < (24 - x8.toInt).toNat; rw [ex8]; omega)
    have e6 : ∀ y z w, zk (B_X7_whose_146 a1 a2 a3 rec2 y4 y5 y6 x8 y z w u) (fun _ s => s 1 = σ 1) := fun y z w => by
      unfold B_X7_whose_146
      refine zk_call (s_X7_off z y u bu.1) (fun _ t hp => ?_)
      subst hp
      exact e9 _ _
    refine zk_ite (fun _ => e9 _ _) (fun _ => zk_ite (fun _ => e6 _ _ _) (fun hk => ?_))
    have gk := znle hk
    refine zk_call (s_X7_of x8 2 u bu.1 j1 (by omega) (by omega) (by omega)) (fun _ t hp => ?_)
    subst hp
    exact e6 _ _ _
theorem v_whose {σ τ : zg_S} (h : RR σ τ) (hX : IX σ) (hM : IM τ) (a b c : Int32) : z2 (f_X6_whose a b c σ) (f_X7_whose a b c τ) (fun _ s _ t => RR s t) := by
  obtain ⟨r, s, e, _⟩ := s_X6_whose a b c σ hX
  obtain ⟨r', t, e', ht⟩ := k_whose a b c τ hM
  have x := w_X6_whose a b c σ r s e
  have y := w_X7_whose a b c τ r' t e'
  exact ⟨r, s, r', t, e, e', h.same (fun p k hp => x p k (fun z => (WT z).1 hp)) (fun p k h1 h2 => x p k (fun z => (WT (k := k) z).2 ⟨h1, h2⟩)) (fun p k hp => y p k (fun z => by unfold W_X7_whose at z; unfold sideM at hp; omega)) ht⟩
