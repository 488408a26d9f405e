/-! the first word -/
theorem c_charAt (q : Nat) (a : Int32) (σ : zg_S) (hq : q < 6) (h0 : 0 ≤ a.toInt) (h1 : a.toInt < (zz_len.getD q 0 : Int)) : zk (f_J0_charAt_5068e q a σ) (fun r s => σ = s ∧ r = (zz_byt.getD q []).getD a.toNatClampNeg 0) := by
  have e0 : (0 : Int32).toInt = 0 := by decide
  have l4 := zlen4 q hq
  have c1 : ¬ a < 0 := fun z => by have := zlt z; omega
  have c2 : a < nI (zz_len.getD q 0) := Int32.lt_iff_toInt_lt.mpr (by rw [nI_toInt (by omega)]; exact h1)
  have z : zin a (zz_len.getD q 0) = true := zin_mk h0 h1
  have j := (zIn z).2
  have cb : ∀ q, q < 6 → ∀ j, j < 4 → vp_nar .char ((Int32.toUInt32 (((zz_byt.getD q []).getD j 0) &&& 255) % 65536).toInt32) = (Int32.toUInt32 (((zz_byt.getD q []).getD j 0) &&& 255) % 65536).toInt32 := by decide +kernel
  have cd : ∀ q, q < 6 → ∀ j, j < 4 → (Int32.toUInt32 (((zz_byt.getD q []).getD j 0) &&& 255) % 65536).toInt32 = (zz_byt.getD q []).getD j 0 := by decide +kernel
  have cc := cb q hq a.toNatClampNeg (by omega)
  have ce := cd q hq a.toNatClampNeg (by omega)
  unfold f_J0_charAt_5068e f_J0_isLatin1_aae02
  refine zk_call (P := fun r s => r = 1 ∧ σ = s) ⟨1, σ, rfl, rfl, rfl⟩ (fun r s hp => ?_)
  obtain ⟨rfl, rfl⟩ := hp
  refine zk_ite (fun h => absurd h (by decide)) (fun _ => ?_)
  refine zk_call (P := fun r s => vp_nar .char r = r ∧ σ = s ∧ r = (zz_byt.getD q []).getD a.toNatClampNeg 0) ?_ (fun r s hp => zk_ck hp.1 (zk_some hp.2))
  unfold f_J1_charAt_3b067
  refine zk_call (P := fun r s => σ = s) ?_ (fun r s hp => ?_)
  · unfold f_J0_checkIndex_df160
    refine zk_call (P := fun r s => σ = s) ?_ (fun r s hp => zk_some hp)
    unfold f_J3_checkIndex_8e157
    exact zk_ite (fun h => absurd h c1) (fun _ => zk_ite (fun _ => zk_some rfl) (fun h => absurd c2 h))
  · subst hp
    exact zk_in z (zk_ck cc (zk_some ⟨cc, rfl, ce⟩))
/-- the piece is the word q -/
def Wd (τ : zg_S) (q : Nat) : Prop := τ 0 17 = 1 ∧ (τ 0 16).toInt - (τ 0 15).toInt = (zz_len.getD q 0 : Int) ∧ ∀ i, i < zz_len.getD q 0 → τ 13 ((τ 0 15).toNatClampNeg + i) = (zz_byt.getD q []).getD i 0
theorem c_isWord {σ τ : zg_S} (q : Nat) (hq : q < 6) (hm : IMc τ) (hT : TK σ τ) (hP : TP σ τ) : zk (f_X1_isWord q σ) (fun r s => σ = s ∧ ((r = 1 ∧ Wd τ q) ∨ (r = 0 ∧ ¬ Wd τ q))) := by
  obtain ⟨t1, t2, t3, t4, t5, t6, t7, tL, _⟩ := hT
  have f14 : 0 ≤ (τ 0 14).toInt ∧ (τ 0 14).toInt ≤ 96 := hm 0 14
  have e0 := zt_0
  have e1 := zt_1
  have l4 := zlen4 q hq
  have nB := ztn t4
  have el : (nI (zz_len.getD q 0)).toInt = (zz_len.getD q 0 : Int) := nI_toInt (by omega)
  have es := zsubn (τ 0 16) (τ 0 15) (by omega) t4
  unfold f_X1_isWord
  rw [t2]
  refine zk_ite (fun hK => ?_) (fun hK => zk_some ⟨rfl, Or.inr ⟨rfl, fun z => hK z.1⟩⟩)
  obtain ⟨d1, _⟩ := tL hK
  refine zk_call (P := fun r s => r = nI (zz_len.getD q 0) ∧ σ = s) ⟨_, _, ej_len _ hq σ, rfl, rfl⟩ (fun r s hp => ?_)
  obtain ⟨rfl, rfl⟩ := hp
  rw [t3, t1]
  refine zk_ite (fun hl => ?_) (fun hl => zk_some ⟨rfl, Or.inr ⟨rfl, fun z => hl (Int32.toInt_inj.mp (by rw [es, el]; exact z.2.1))⟩⟩)
  have gl := zeq hl
  rw [es, el] at gl
  unfold L_X1_isWord_28
  refine zl_I (fun x s => σ = s ∧ 0 ≤ x.toInt ∧ x.toInt ≤ (zz_len.getD q 0 : Int) ∧ ∀ i : Nat, (i : Int) < x.toInt → τ 13 ((τ 0 15).toNatClampNeg + i) = (zz_byt.getD q []).getD i 0) (fun x s => (4 - x.toInt).toNat) ?_ zfu _ _ ⟨rfl, by omega, by omega, fun i hi => by omega⟩ (by unfold zfu; omega)
  intro rec x s hI ih
  obtain ⟨rfl, i1, i2, i3⟩ := hI
  have nx := ztn i1
  unfold B_X1_isWord_28
  refine zk_call (P := fun r s => r = nI (zz_len.getD q 0) ∧ σ = s) ⟨_, _, ej_len _ hq σ, rfl, rfl⟩ (fun r s hp => ?_)
  obtain ⟨rfl, rfl⟩ := hp
  refine zk_ite (fun hc => ?_) (fun hc => ?_)
  · have g := zle hc
    exact zk_some ⟨rfl, Or.inl ⟨rfl, hK, gl, fun i hi => i3 i (by omega)⟩⟩
  have g := znle hc
  have ea := zTe (zTadd (zTs (τ 0 15)) (zTs x) (by omega) (by omega))
  rw [t1]
  have na := ztn (i := τ 0 15 + x) (by omega)
  refine zk_call (a_sortAt (τ 0 15 + x) σ (by omega) (by rw [hP.1]; exact f14.2)) (fun r2 s hp => ?_)
  obtain ⟨rfl, hs⟩ := hp
  have hl' : qL (τ 0 14).toInt (τ 13) (τ 0 15 + x).toNatClampNeg := d1 _ (by omega) (by omega)
  have hl2 : qL (σ 7 2).toInt (σ 6) (τ 0 15 + x).toNatClampNeg := by
    rw [hP.1]
    exact (qL_e hP.2).mpr hl'
  have h1 : r2 = 1 := by
    rcases hs with ⟨_, k⟩ | ⟨k, _⟩ | ⟨_, k⟩ | ⟨_, _, k, _⟩
    · have := hl2.1; omega
    · exact k
    · exact absurd (qLD hl2 k) id
    · exact absurd hl2 k
  refine zk_ite (fun _ => ?_) (fun z => absurd h1 z)
  rw [t1]
  refine zk_in (zin_mk (by omega) (by omega)) ?_
  refine zk_call (c_charAt q x σ hq i1 (by omega)) (fun r3 s hp => ?_)
  obtain ⟨rfl, rfl⟩ := hp
  have hT6 : σ 6 (τ 0 15 + x).toNatClampNeg = τ 13 ((τ 0 15).toNatClampNeg + x.toNatClampNeg) := by
    rw [hP.2 _ hl'.1, show (τ 0 15 + x).toNatClampNeg = (τ 0 15).toNatClampNeg + x.toNatClampNeg by omega]
  rw [hT6]
  refine zk_ite (fun he => ?_) (fun he => ?_)
  · have ex := zTe (zTadd (zTs x) (zTl zt_1) (by omega) (by omega))
    refine ih (x + 1) σ ⟨rfl, by rw [ex]; omega, by rw [ex]; omega, fun i hi => ?_⟩ (by show (4 - (x + 1).toInt).toNat < (4 - x.toInt).toNat; rw [ex]; omega)
    rw [ex] at hi
    by_cases c : (i : Int) < x.toInt
    · exact i3 i c
    · rw [show i = x.toNatClampNeg by omega]
      exact he
  · exact zk_some ⟨rfl, Or.inr ⟨rfl, fun z => he (z.2.2 _ (by omega))⟩⟩
/-- the reference's look at a word -/
theorem r_isWordAt (a1 a2 a3 a4 : Int32) (l : Int) (τ : zg_S) (hm : IMc τ) (hB : (τ 0 15).toInt ≤ (τ 0 16).toInt) (h16 : (τ 0 16).toInt ≤ (τ 0 14).toInt) (hl : (a4 = 0 ∧ l = 3) ∨ (¬ a4 = 0 ∧ l = 4)) : zk (f_X7_isWordAt a1 a2 a3 a4 τ) (fun r s => τ = s ∧ ((r = 1 ∧ (τ 0 17 = 1 ∧ (τ 0 16).toInt - (τ 0 15).toInt = l ∧ τ 13 ((τ 0 15).toNatClampNeg + 0) = a1 ∧ τ 13 ((τ 0 15).toNatClampNeg + 1) = a2 ∧ τ 13 ((τ 0 15).toNatClampNeg + 2) = a3 ∧ (a4 = 0 ∨ τ 13 ((τ 0 15).toNatClampNeg + 3) = a4))) ∨ (r = 0 ∧ ¬ (τ 0 17 = 1 ∧ (τ 0 16).toInt - (τ 0 15).toInt = l ∧ τ 13 ((τ 0 15).toNatClampNeg + 0) = a1 ∧ τ 13 ((τ 0 15).toNatClampNeg + 1) = a2 ∧ τ 13 ((τ 0 15).toNatClampNeg + 2) = a3 ∧ (a4 = 0 ∨ τ 13 ((τ 0 15).toNatClampNeg + 3) = a4))))) := by
  have e1 := zt_1
  have e2 := zt_2
  have e3 := zt_3
  have e4 := zt_4
  have f14 : 0 ≤ (τ 0 14).toInt ∧ (τ 0 14).toInt ≤ 96 := hm 0 14
  have f15 : 0 ≤ (τ 0 15).toInt ∧ (τ 0 15).toInt ≤ 96 := hm 0 15
  have nB := ztn f15.1
  have es := zsubn (τ 0 16) (τ 0 15) (by omega) f15.1
  have ee : ∀ y : Int32, y.toInt = l → zk (B_X7_isWordAt_10 a1 a2 a3 a4 y τ) (fun r s => τ = s ∧ ((r = 1 ∧ (τ 0 17 = 1 ∧ (τ 0 16).toInt - (τ 0 15).toInt = l ∧ τ 13 ((τ 0 15).toNatClampNeg + 0) = a1 ∧ τ 13 ((τ 0 15).toNatClampNeg + 1) = a2 ∧ τ 13 ((τ 0 15).toNatClampNeg + 2) = a3 ∧ (a4 = 0 ∨ τ 13 ((τ 0 15).toNatClampNeg + 3) = a4))) ∨ (r = 0 ∧ ¬ (τ 0 17 = 1 ∧ (τ 0 16).toInt - (τ 0 15).toInt = l ∧ τ 13 ((τ 0 15).toNatClampNeg + 0) = a1 ∧ τ 13 ((τ 0 15).toNatClampNeg + 1) = a2 ∧ τ 13 ((τ 0 15).toNatClampNeg + 2) = a3 ∧ (a4 = 0 ∨ τ 13 ((τ 0 15).toNatClampNeg + 3) = a4))))) := fun y hy => by
    have hl3 : 3 ≤ l := by omega
    unfold B_X7_isWordAt_10
    refine zk_ite (fun c1 => ?_) (fun c1 => zk_some ⟨rfl, Or.inr ⟨rfl, fun z => c1 z.1⟩⟩)
    refine zk_ite (fun c2 => ?_) (fun c2 => zk_some ⟨rfl, Or.inr ⟨rfl, fun z => c2 (Int32.toInt_inj.mp (by rw [es, hy]; exact z.2.1))⟩⟩)
    have g2 := zeq c2
    rw [es, hy] at g2
    have z1 := zTadd (zTs (τ 0 15)) (zTl zt_1) (by omega) (by omega)
    have z2' := zTadd (zTs (τ 0 15)) (zTl zt_2) (by omega) (by omega)
    have i1 : (τ 0 15 + 1).toNatClampNeg = (τ 0 15).toNatClampNeg + 1 := zTn z1 (by omega)
    have i2 : (τ 0 15 + 2).toNatClampNeg = (τ 0 15).toNatClampNeg + 2 := zTn z2' (by omega)
    refine zk_in (zin_mk f15.1 (by omega)) ?_
    refine zk_ite (fun c3 => ?_) (fun c3 => zk_some ⟨rfl, Or.inr ⟨rfl, fun z => c3 z.2.2.1⟩⟩)
    refine zk_in (zin_mkT z1 (by omega) (by omega)) ?_
    rw [i1]
    refine zk_ite (fun c4 => ?_) (fun c4 => zk_some ⟨rfl, Or.inr ⟨rfl, fun z => c4 z.2.2.2.1⟩⟩)
    refine zk_in (zin_mkT z2' (by omega) (by omega)) ?_
    rw [i2]
    refine zk_ite (fun c5 => ?_) (fun c5 => zk_some ⟨rfl, Or.inr ⟨rfl, fun z => c5 z.2.2.2.2.1⟩⟩)
    refine zk_ite (fun c6 => zk_some ⟨rfl, Or.inl ⟨rfl, c1, g2, c3, c4, c5, Or.inl c6⟩⟩) (fun c6 => ?_)
    have hl4 : l = 4 := (hl.resolve_left (fun z => c6 z.1)).2
    have z3 := zTadd (zTs (τ 0 15)) (zTl zt_3) (by omega) (by omega)
    have i3 : (τ 0 15 + 3).toNatClampNeg = (τ 0 15).toNatClampNeg + 3 := zTn z3 (by omega)
    refine zk_in (zin_mkT z3 (by omega) (by omega)) ?_
    rw [i3]
    exact zk_ite (fun c7 => zk_some ⟨rfl, Or.inl ⟨rfl, c1, g2, c3, c4, c5, Or.inr c7⟩⟩) (fun c7 => zk_some ⟨rfl, Or.inr ⟨rfl, fun z => z.2.2.2.2.2.elim c6 c7⟩⟩)
  unfold f_X7_isWordAt
  refine zk_ite (fun h => ee 3 ?_) (fun h => ee 4 ?_)
  · have := (hl.resolve_right (fun z => z.1 h)).2
    omega
  · have := (hl.resolve_left (fun z => h z.1)).2
    omega
theorem Wd0 {τ : zg_S} : Wd τ 0 ↔ (τ 0 17 = 1 ∧ (τ 0 16).toInt - (τ 0 15).toInt = 4 ∧ τ 13 ((τ 0 15).toNatClampNeg + 0) = 109 ∧ τ 13 ((τ 0 15).toNatClampNeg + 1) = 101 ∧ τ 13 ((τ 0 15).toNatClampNeg + 2) = 108 ∧ ((116 : Int32) = 0 ∨ τ 13 ((τ 0 15).toNatClampNeg + 3) = 116)) := by
  refine ⟨fun z => ⟨z.1, z.2.1, z.2.2 0 (by decide), z.2.2 1 (by decide), z.2.2 2 (by decide), Or.inr (z.2.2 3 (by decide))⟩, fun z => ⟨z.1, z.2.1, fun i hi => ?_⟩⟩
  have hi' : i < 4 := hi
  have h3 := z.2.2.2.2.2.resolve_left (by decide)
  have : i = 0 ∨ i = 1 ∨ i = 2 ∨ i = 3 := by omega
  rcases this with rfl | rfl | rfl | rfl
  · exact z.2.2.1
  · exact z.2.2.2.1
  · exact z.2.2.2.2.1
  · exact h3
theorem Wd1 {τ : zg_S} : Wd τ 1 ↔ (τ 0 17 = 1 ∧ (τ 0 16).toInt - (τ 0 15).toInt = 3 ∧ τ 13 ((τ 0 15).toNatClampNeg + 0) = 102 ∧ τ 13 ((τ 0 15).toNatClampNeg + 1) = 101 ∧ τ 13 ((τ 0 15).toNatClampNeg + 2) = 101 ∧ ((0 : Int32) = 0 ∨ τ 13 ((τ 0 15).toNatClampNeg + 3) = 0)) := by
  refine ⟨fun z => ⟨z.1, z.2.1, z.2.2 0 (by decide), z.2.2 1 (by decide), z.2.2 2 (by decide), Or.inl rfl⟩, fun z => ⟨z.1, z.2.1, fun i hi => ?_⟩⟩
  have hi' : i < 3 := hi
  have : i = 0 ∨ i = 1 ∨ i = 2 := by omega
  rcases this with rfl | rfl | rfl
  · exact z.2.2.1
  · exact z.2.2.2.1
  · exact z.2.2.2.2.1
theorem Wd2 {τ : zg_S} : Wd τ 2 ↔ (τ 0 17 = 1 ∧ (τ 0 16).toInt - (τ 0 15).toInt = 4 ∧ τ 13 ((τ 0 15).toNatClampNeg + 0) = 102 ∧ τ 13 ((τ 0 15).toNatClampNeg + 1) = 105 ∧ τ 13 ((τ 0 15).toNatClampNeg + 2) = 110 ∧ ((101 : Int32) = 0 ∨ τ 13 ((τ 0 15).toNatClampNeg + 3) = 101)) := by
  refine ⟨fun z => ⟨z.1, z.2.1, z.2.2 0 (by decide), z.2.2 1 (by decide), z.2.2 2 (by decide), Or.inr (z.2.2 3 (by decide))⟩, fun z => ⟨z.1, z.2.1, fun i hi => ?_⟩⟩
  have hi' : i < 4 := hi
  have h3 := z.2.2.2.2.2.resolve_left (by decide)
  have : i = 0 ∨ i = 1 ∨ i = 2 ∨ i = 3 := by omega
  rcases this with rfl | rfl | rfl | rfl
  · exact z.2.2.1
  · exact z.2.2.2.1
  · exact z.2.2.2.2.1
  · exact h3
def KQ (σ τ : zg_S) (r : Int32) (s : zg_S) (r' : Int32) (t : zg_S) : Prop := σ = s ∧ τ = t ∧ ((r = -1000000005 ∧ r' = -1) ∨ (r = r' ∧ KY r))
theorem z2_key {σ τ : zg_S} (hm : IMc τ) (hT : TK σ τ) (hP : TP σ τ) : z2 (f_X1_keyHere σ) (f_X7_key τ) (KQ σ τ) := by
  have q5 := hT.2.2.2.2.1
  have q6 := hT.2.2.2.2.2.1
  unfold f_X1_keyHere f_X7_key
  refine z2_cL (c_isWord 0 (by decide) hm hT hP) (fun r s hs => z2_cR (r_isWordAt 109 101 108 116 4 τ hm q5 q6 (Or.inr ⟨by decide, rfl⟩)) (fun r' t ht => ?_))
  obtain ⟨rfl, hs⟩ := hs
  obtain ⟨rfl, ht⟩ := ht
  rw [← Wd0] at ht
  rcases hs with ⟨rfl, hs⟩ | ⟨rfl, hs⟩
  · obtain ⟨rfl, -⟩ := ht.resolve_right (fun z => z.2 hs)
    exact z2_nL (by decide) (z2_nR (by decide) (z2_some ⟨rfl, rfl, Or.inr ⟨rfl, Or.inl rfl⟩⟩))
  obtain ⟨rfl, -⟩ := ht.resolve_left (fun z => hs z.2)
  refine z2_pL rfl (z2_pR rfl ?_)
  refine z2_cL (c_isWord 1 (by decide) hm hT hP) (fun r s hs => z2_cR (r_isWordAt 102 101 101 0 3 τ hm q5 q6 (Or.inl ⟨rfl, rfl⟩)) (fun r' t ht => ?_))
  obtain ⟨rfl, hs⟩ := hs
  obtain ⟨rfl, ht⟩ := ht
  rw [← Wd1] at ht
  rcases hs with ⟨rfl, hs⟩ | ⟨rfl, hs⟩
  · obtain ⟨rfl, -⟩ := ht.resolve_right (fun z => z.2 hs)
    exact z2_nL (by decide) (z2_nR (by decide) (z2_some ⟨rfl, rfl, Or.inr ⟨rfl, Or.inr (Or.inl rfl)⟩⟩))
  obtain ⟨rfl, -⟩ := ht.resolve_left (fun z => hs z.2)
  refine z2_pL rfl (z2_pR rfl ?_)
  refine z2_cL (c_isWord 2 (by decide) hm hT hP) (fun r s hs => z2_cR (r_isWordAt 102 105 110 101 4 τ hm q5 q6 (Or.inr ⟨by decide, rfl⟩)) (fun r' t ht => ?_))
  obtain ⟨rfl, hs⟩ := hs
  obtain ⟨rfl, ht⟩ := ht
  rw [← Wd2] at ht
  rcases hs with ⟨rfl, hs⟩ | ⟨rfl, hs⟩
  · obtain ⟨rfl, -⟩ := ht.resolve_right (fun z => z.2 hs)
    exact z2_nL (by decide) (z2_nR (by decide) (z2_some ⟨rfl, rfl, Or.inr ⟨rfl, Or.inr (Or.inr rfl)⟩⟩))
  obtain ⟨rfl, -⟩ := ht.resolve_left (fun z => hs z.2)
  exact z2_pL rfl (z2_pR rfl (z2_some ⟨rfl, rfl, Or.inl ⟨rfl, rfl⟩⟩))
