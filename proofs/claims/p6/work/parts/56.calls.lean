theorem m_copy (a1 a2 a3 a4 a5 : Int32) (σ : zg_S) (h : IM σ) : zk (f_X7_copy a1 a2 a3 a4 a5 σ) (fun _ s => IM s) := by
  have e0 := zt_0
  have e1 := zt_1
  have e24 := zt_24
  unfold f_X7_copy
  refine zk_call (s_X7_isSheet a1 σ h.1) (fun r s hp => ?_)
  obtain ⟨rfl, hr⟩ := hp
  refine zk_ite (fun _ => zk_some h) (fun hn => ?_)
  obtain ⟨-, g1, g2⟩ := hr.resolve_left hn
  refine zk_call (s_X7_isSheet a3 σ h.1) (fun r s hp => ?_)
  obtain ⟨rfl, hr2⟩ := hp
  refine zk_ite (fun _ => zk_some h) (fun hn => ?_)
  obtain ⟨-, g3, g4⟩ := hr2.resolve_left hn
  refine zk_in (zin_mk g1 (by omega)) ?_
  refine zk_ite (fun _ => zk_some h) (fun _ => ?_)
  refine zk_in (zin_mk g3 (by omega)) ?_
  refine zk_ite (fun _ => ?_) (fun _ => zk_some h)
  refine zk_ite (fun _ => ?_) (fun _ => zk_some h)
  refine zk_ite (fun _ => zk_some h) (fun n2 => ?_)
  refine zk_ite (fun _ => zk_some h) (fun n4 => ?_)
  refine zk_ite (fun _ => zk_some h) (fun n5 => ?_)
  refine zk_ite (fun _ => zk_some h) (fun c1 => ?_)
  refine zk_ite (fun c2 => ?_) (fun _ => zk_some h)
  have n2 := znlt n2
  have n4 := znlt n4
  have n5 := znlt n5
  have k1 := zl_big (by omega) (by omega) c1
  have k2 := zl_big (a := a4) (b := a5) (c := σ 5 (Int32.toNatClampNeg a3)) (by omega) (by omega) (fun z => by have := zlt z; have := zle c2; omega)
  have f1 : 0 ≤ (σ 5 (Int32.toNatClampNeg a1)).toInt ∧ (σ 5 (Int32.toNatClampNeg a1)).toInt ≤ 24 := h.1 5 _
  have f3 : 0 ≤ (σ 5 (Int32.toNatClampNeg a3)).toInt ∧ (σ 5 (Int32.toNatClampNeg a3)).toInt ≤ 24 := h.1 5 _
  unfold L_X7_copy_113
  refine zl_I (fun (x : Int32) (s : zg_S) => IM s ∧ 0 ≤ x.toInt ∧ x.toInt ≤ 24) (fun (x : Int32) (_ : zg_S) => (24 - x.toInt).toNat) ?_ zfu _ _ ⟨h, by omega, by omega⟩ (by unfold zfu; omega)
  intro rec x s hI ih
  obtain ⟨hs, i1, i2⟩ := hI
  unfold B_X7_copy_113
  refine zk_ite (fun _ => ?_) (fun hl => ?_)
  · unfold L_X7_copy_150
    refine zl_I (fun (x : Int32) (s : zg_S) => IM s ∧ 0 ≤ x.toInt ∧ x.toInt ≤ 24) (fun (x : Int32) (_ : zg_S) => (24 - x.toInt).toNat) ?_ zfu _ _ ⟨hs, by omega, by omega⟩ (by unfold zfu; omega)
    intro rec2 y t hI ih2
    obtain ⟨ht, j1, j2⟩ := hI
    unfold B_X7_copy_150
    refine zk_ite (fun _ => zk_some ht) (fun hl => ?_)
    have g := znle hl
    refine zk_in (zin_mk j1 (by omega)) ?_
    refine zk_let (fun v _ => ?_)
    refine zk_in (zin_mkT (zTadd (zTadd (zTmul (zTl zt_24) (zTs a3) (by omega) (by omega)) (zTs a4) (by omega) (by omega)) (zTs y) (by omega) (by omega)) (by omega) (by omega)) ?_
    refine zk_let (fun u q => ?_)
    have ex := zTe (zTadd (zTs y) (zTl zt_1) (by omega) (by omega))
    exact ih2 (y + 1) u ⟨by rw [q]; exact ht.hi (IMc.up ht.1 (zTs _) trivial) (hi.upo hi.rf rfl), by rw [ex]; omega, by rw [ex]; omega⟩ (by show (24 - (y + 1).toInt).toNat < (24 - y.toInt).toNat; rw [ex]; omega)
  · have g := znle hl
    refine zk_in (zin_mkT (zTadd (zTadd (zTmul (zTl zt_24) (zTs a1) (by omega) (by omega)) (zTs a2) (by omega) (by omega)) (zTs x) (by omega) (by omega)) (by omega) (by omega)) ?_
    refine zk_let (fun v _ => ?_)
    refine zk_in (zin_mk i1 (by omega)) ?_
    refine zk_let (fun u q => ?_)
    have ex := zTe (zTadd (zTs x) (zTl zt_1) (by omega) (by omega))
    exact ih (x + 1) u ⟨by rw [q]; exact hs.hi (IMc.up hs.1 (zTs _) trivial) (hi.upo hi.rf rfl), by rw [ex]; omega, by rw [ex]; omega⟩ (by show (24 - (x + 1).toInt).toNat < (24 - x.toInt).toNat; rw [ex]; omega)
/-! lay -/
theorem ly150 (a1 a2 a3 x5 x6 : Int32) (σ : zg_S) (h : IM σ) (g1 : 0 ≤ a1.toInt) (g2 : a1.toInt ≤ 4) (g3 : 0 ≤ a3.toInt) (g4 : a3.toInt ≤ 3) (h6 : x6 = 0) : zk (L_X7_lay_150 a1 a2 a3 zfu x5 x6 σ) (fun _ s => IM s) := by
  have e0 := zt_0
  have e1 := zt_1
  have e24 := zt_24
  subst h6
  unfold L_X7_lay_150
  refine zl_II (fun (_ x : Int32) (s : zg_S) => IM s ∧ 0 ≤ x.toInt ∧ x.toInt ≤ 24) (fun (_ x : Int32) (_ : zg_S) => (24 - x.toInt).toNat) ?_ zfu _ _ _ ⟨h, by omega, by omega⟩ (by unfold zfu; omega)
  intro rec y x s hI ih
  obtain ⟨hs, i1, i2⟩ := hI
  unfold B_X7_lay_150
  refine zk_ite (fun _ => zk_some hs) (fun hl => ?_)
  have g := znle hl
  refine zk_in (zin_mkT (zTadd (zTmul (zTl zt_24) (zTs a3) (by omega) (by omega)) (zTs x) (by omega) (by omega)) (by omega) (by omega)) ?_
  refine zk_let (fun v _ => ?_)
  refine zk_in (zin_mkT (zTadd (zTmul (zTl zt_24) (zTs a1) (by omega) (by omega)) (zTs x) (by omega) (by omega)) (by omega) (by omega)) ?_
  refine zk_let (fun u q => ?_)
  have ex := zTe (zTadd (zTs x) (zTl zt_1) (by omega) (by omega))
  exact ih y (x + 1) u ⟨by rw [q]; exact hs.hi (IMc.up hs.1 (zTs _) trivial) (hi.upo hi.rf rfl), by rw [ex]; omega, by rw [ex]; omega⟩ (by show (24 - (x + 1).toInt).toNat < (24 - x.toInt).toNat; rw [ex]; omega)
theorem ly129 (a1 a2 a3 x5 y0 : Int32) (σ : zg_S) (h : IM σ) (g1 : 0 ≤ a1.toInt) (g2 : a1.toInt ≤ 4) (hC : a2 = 2 → 0 ≤ a3.toInt ∧ a3.toInt ≤ 3) : zk (B_X7_lay_129 a1 a2 a3 x5 y0 a1 σ) (fun _ s => IM s) := by
  unfold B_X7_lay_129
  refine zk_in (zin_mk g1 (by omega)) ?_
  refine zk_let (fun s q => ?_)
  have hs : IM s := by rw [q]; exact h.hi (IMc.up h.1 (zTs _) trivial) (hi.upo hi.rf rfl)
  refine zk_ite (fun h2 => ?_) (fun _ => zk_some hs)
  obtain ⟨g3, g4⟩ := hC h2
  refine zk_in (zin_mk g3 (by omega)) ?_
  refine zk_let (fun v ev => ?_)
  have f5 : 0 ≤ v.toInt ∧ v.toInt ≤ 24 := by rw [ev]; exact hs.1 5 _
  refine zk_in (zin_mk g1 (by omega)) ?_
  refine zk_let (fun t q => ?_)
  have ht : IM t := by rw [q]; exact hs.hi (IMc.up hs.1 (zTs _) f5) (hi.upo hi.rf rfl)
  exact ly150 a1 a2 a3 x5 0 t ht g1 g2 g3 g4 rfl
theorem ly109 (a1 a2 a3 x5 y0 : Int32) (σ : zg_S) (h : IM σ) (g1 : 0 ≤ a1.toInt) (g2 : a1.toInt ≤ 4) (hC : a2 = 2 → 0 ≤ a3.toInt ∧ a3.toInt ≤ 3) (hD : a2 = 1 → 0 ≤ a3.toInt ∧ a3.toInt ≤ 8) : zk (B_X7_lay_109 a1 a2 a3 x5 y0 a1 σ) (fun _ s => IM s) := by
  unfold B_X7_lay_109
  refine zk_in (zin_mk g1 (by omega)) ?_
  refine zk_let (fun s q => ?_)
  have hs : IM s := by rw [q]; exact h.hi (IMc.up h.1 (zTs _) trivial) (hi.upo hi.rf rfl)
  refine zk_ite (fun h2 => ?_) (fun _ => ly129 a1 a2 a3 x5 0 s hs g1 g2 hC)
  refine zk_call (s_X7_worth a3 s hs.1 (hD h2).1 (hD h2).2) (fun r t hp => ?_)
  subst hp
  exact ly129 a1 a2 a3 x5 r s hs g1 g2 hC
theorem ly74 (a1 a2 a3 : Int32) (σ : zg_S) (h : IM σ) (g1 : 0 ≤ a1.toInt) (g2 : a1.toInt ≤ 4) (hC : a2 = 2 → 0 ≤ a3.toInt ∧ a3.toInt ≤ 3) (hD : a2 = 1 → 0 ≤ a3.toInt ∧ a3.toInt ≤ 8) : zk (B_X7_lay_74 a1 a2 a3 σ) (fun _ s => IM s) := by
  have e0 := zt_0
  unfold B_X7_lay_74
  refine zk_in (zin_mk g1 (by omega)) ?_
  refine zk_let (fun s q => ?_)
  have hs : IM s := by rw [q]; exact h.hi (IMc.up h.1 (zTs _) trivial) (hi.upo hi.rf rfl)
  refine zk_ite (fun h2 => ?_) (fun _ => ly109 a1 a2 a3 _ a3 s hs g1 g2 hC hD)
  refine zk_call (s_X7_of a3 0 s hs.1 (hD h2).1 (hD h2).2 (by omega) (by omega)) (fun r t hp => ?_)
  subst hp
  exact ly109 a1 a2 a3 _ r s hs g1 g2 hC hD
theorem ly34 (a1 a2 a3 : Int32) (σ : zg_S) (h : IM σ) (hC : a2 = 2 → 0 ≤ a3.toInt ∧ a3.toInt ≤ 3) (hD : a2 = 1 → 0 ≤ a3.toInt ∧ a3.toInt ≤ 8) : zk (B_X7_lay_34 a1 a2 a3 σ) (fun _ s => IM s) := by
  unfold B_X7_lay_34 B_X7_lay_39
  refine zk_call (s_X7_isSlot a1 σ h.1) (fun r s hp => ?_)
  obtain ⟨rfl, hr⟩ := hp
  refine zk_ite (fun _ => zk_some h) (fun hn => ?_)
  obtain ⟨-, g1, g2⟩ := hr.resolve_left hn
  refine zk_ite (fun _ => zk_some h) (fun _ => ?_)
  refine zk_ite (fun h2 => ?_) (fun _ => ly74 a1 a2 a3 σ h g1 g2 hC hD)
  refine zk_in (zin_mk (hC h2).1 (by have := (hC h2).2; omega)) ?_
  exact zk_ite (fun _ => ly74 a1 a2 a3 σ h g1 g2 hC hD) (fun _ => zk_some h)
theorem ly38 (a1 a2 a3 : Int32) (σ : zg_S) (h : IM σ) : zk (B_X7_lay_38 a1 a2 a3 σ) (fun _ s => IM s) := by
  unfold B_X7_lay_38 B_X7_lay_39
  refine zk_call (s_X7_isSlot a1 σ h.1) (fun r s hp => ?_)
  obtain ⟨rfl, hr⟩ := hp
  refine zk_ite (fun _ => zk_some h) (fun hn => ?_)
  exact zk_ite (fun _ => zk_some h) (fun hn => absurd rfl hn)
theorem ly22 (a1 a2 a3 : Int32) (σ : zg_S) (h : IM σ) : zk (B_X7_lay_22 a1 a2 a3 σ) (fun _ s => IM s) := by
  unfold B_X7_lay_22
  refine zk_ite (fun h2 => ?_) (fun _ => ly38 a1 a2 a3 σ h)
  refine zk_call (s_X7_isSheet a3 σ h.1) (fun r s hp => ?_)
  obtain ⟨rfl, hr⟩ := hp
  refine zk_ite (fun _ => ly38 a1 a2 a3 σ h) (fun hn => ?_)
  exact ly34 a1 a2 a3 σ h (fun _ => (hr.resolve_left hn).2) (fun z => absurd (z.symm.trans h2) (by decide))
theorem m_lay (a1 a2 a3 : Int32) (σ : zg_S) (h : IM σ) : zk (f_X7_lay a1 a2 a3 σ) (fun _ s => IM s) := by
  have f0 : 0 ≤ (σ 1 0).toInt ∧ (σ 1 0).toInt ≤ 9 := h.1 1 0
  unfold f_X7_lay
  refine zk_ite (fun h0 => ly34 a1 a2 a3 σ h (fun z => absurd (z.symm.trans h0) (by decide)) (fun z => absurd (z.symm.trans h0) (by decide))) (fun _ => ?_)
  refine zk_ite (fun h0 => ly34 a1 a2 a3 σ h (fun z => absurd (z.symm.trans h0) (by decide)) (fun z => absurd (z.symm.trans h0) (by decide))) (fun _ => ?_)
  refine zk_ite (fun h1 => ?_) (fun _ => ly22 a1 a2 a3 σ h)
  refine zk_call (s_X7_isStall a3 σ h.1) (fun r s hp => ?_)
  obtain ⟨rfl, hr⟩ := hp
  refine zk_ite (fun _ => ly22 a1 a2 a3 σ h) (fun hn => ?_)
  obtain ⟨-, g1, g2⟩ := hr.resolve_left hn
  exact ly34 a1 a2 a3 σ h (fun z => absurd (z.symm.trans h1) (by decide)) (fun _ => ⟨g1, by omega⟩)
/-! count -/
theorem i9 (k : Int32) (h0 : 0 ≤ k.toInt) (h1 : k.toInt ≤ 8) : k = 0 ∨ k = 1 ∨ k = 2 ∨ k = 3 ∨ k = 4 ∨ k = 5 ∨ k = 6 ∨ k = 7 ∨ k = 8 := by
  have e : ∀ n : Int32, k.toInt = n.toInt → k = n := fun n h => Int32.toInt_inj.mp h
  have e0 := e 0
  have e1 := e 1
  have e2 := e 2
  have e3 := e 3
  have e4 := e 4
  have e5 := e 5
  have e6 := e 6
  have e7 := e 7
  have e8 := e 8
  rw [zt_0] at e0
  rw [zt_1] at e1
  rw [zt_2] at e2
  rw [zt_3] at e3
  rw [zt_4] at e4
  rw [zt_5] at e5
  rw [zt_6] at e6
  rw [zt_7] at e7
  rw [zt_8] at e8
  have hc : k.toInt = 0 ∨ k.toInt = 1 ∨ k.toInt = 2 ∨ k.toInt = 3 ∨ k.toInt = 4 ∨ k.toInt = 5 ∨ k.toInt = 6 ∨ k.toInt = 7 ∨ k.toInt = 8 := by omega
  exact hc.imp e0 (Or.imp e1 (Or.imp e2 (Or.imp e3 (Or.imp e4 (Or.imp e5 (Or.imp e6 (Or.imp e7 e8)))))))
theorem sb_one (k : Int32) (h0 : 0 ≤ k.toInt) (h1 : k.toInt ≤ 8) : ((1 : Int32) <<< (k &&& 31)).toBitVec.toNat < 2 ^ (k.toInt.toNat + 1) := by
  rcases i9 k h0 h1 with rfl | rfl | rfl | rfl | rfl | rfl | rfl | rfl | rfl <;> decide
theorem sb_go (k v : Int32) (h0 : 0 ≤ k.toInt) (h1 : k.toInt ≤ 8) (h : v.toBitVec.toNat < 2 ^ k.toInt.toNat) : (v ||| ((1 : Int32) <<< (k &&& 31))).toBitVec.toNat < 2 ^ (k.toInt.toNat + 1) := by
  rw [Int32.toBitVec_or, BitVec.toNat_or]
  refine Nat.or_lt_two_pow (Nat.lt_of_lt_of_le h (Nat.pow_le_pow_right (by decide) (Nat.le_succ _))) (sb_one k h0 h1)
theorem sb_no (v : Int32) : v ||| 0 = v := Int32.or_zero
theorem m_shadedSet (σ : zg_S) (hσ : IMc σ) : zk (f_X7_shadedSet σ) (fun r s => σ = s ∧ r.toBitVec.toNat < 512) := by
  have e0 := zt_0
  have f0 : 0 ≤ (σ 1 0).toInt ∧ (σ 1 0).toInt ≤ 9 := hσ 1 0
  unfold f_X7_shadedSet L_X7_shadedSet_4
  refine zl_II (fun (v k : Int32) (s : zg_S) => σ = s ∧ v.toBitVec.toNat < 2 ^ k.toInt.toNat ∧ 0 ≤ k.toInt ∧ k.toInt ≤ 9) (fun (_ k : Int32) (_ : zg_S) => (9 - k.toInt).toNat) ?_ zfu _ _ _ ⟨rfl, by decide, by omega, by omega⟩ (by unfold zfu; omega)
  intro rec v k s hI ih
  obtain ⟨rfl, hv, i1, i2⟩ := hI
  unfold B_X7_shadedSet_4
  refine zk_ite (fun _ => zk_some ⟨rfl, Nat.lt_of_lt_of_le hv (Nat.le_trans (Nat.pow_le_pow_right (by decide) (show k.toInt.toNat ≤ 9 by omega)) (show 2 ^ 9 ≤ 512 by decide))⟩) (fun hl => ?_)
  have g := znle hl
  refine zk_call (s_X7_isShaded k σ hσ i1 (by omega)) (fun r t hp => ?_)
  obtain ⟨rfl, _⟩ := hp
  have ex := zTe (zTadd (zTs k) (zTl zt_1) (by omega) (by omega))
  have en : (k + 1).toInt.toNat = k.toInt.toNat + 1 := by rw [ex]; omega
  unfold B_X7_shadedSet_30
  refine zk_ite (fun _ => ?_) (fun _ => ?_)
  · rw [sb_no]
    exact ih v (k + 1) σ ⟨rfl, by rw [en]; exact Nat.lt_of_lt_of_le hv (Nat.pow_le_pow_right (by decide) (Nat.le_succ _)), by rw [ex]; omega, by rw [ex]; omega⟩ (by show (9 - (k + 1).toInt).toNat < (9 - k.toInt).toNat; rw [ex]; omega)
  · exact ih _ (k + 1) σ ⟨rfl, by rw [en]; exact sb_go k v i1 (by omega) hv, by rw [ex]; omega, by rw [ex]; omega⟩ (by show (9 - (k + 1).toInt).toNat < (9 - k.toInt).toNat; rw [ex]; omega)
theorem sb_less (x : Int32) (h : ¬ x = 0) : (x &&& (x - 1)).toBitVec.toNat < x.toBitVec.toNat := by
  rw [Int32.toBitVec_and, BitVec.toNat_and, Int32.toBitVec_sub]
  have hx : x.toBitVec.toNat ≠ 0 := fun z => h (Int32.toBitVec_inj.mp (BitVec.eq_of_toNat_eq z))
  have h1 := @Nat.and_le_right x.toBitVec.toNat (x.toBitVec - (1 : Int32).toBitVec).toNat
  have h3 : (1 : Int32).toBitVec.toNat = 1 := by decide
  have h4 : (1 : Int32).toBitVec ≤ x.toBitVec := by
    show (1 : Int32).toBitVec.toNat ≤ x.toBitVec.toNat
    omega
  have h2 := BitVec.toNat_sub_of_le h4
  omega
theorem m_manyShaded (σ : zg_S) (hσ : IMc σ) : zk (f_X7_manyShaded σ) (fun _ s => σ = s) := by
  unfold f_X7_manyShaded
  refine zk_call (m_shadedSet σ hσ) (fun r s hp => ?_)
  obtain ⟨rfl, hr⟩ := hp
  unfold L_X7_manyShaded_7
  refine zl_II (fun (_ v : Int32) (s : zg_S) => σ = s ∧ v.toBitVec.toNat < 512) (fun (_ v : Int32) (_ : zg_S) => v.toBitVec.toNat) ?_ zfu _ _ _ ⟨rfl, hr⟩ (by unfold zfu; show r.toBitVec.toNat < 100000; omega)
  intro rec n v s hI ih
  obtain ⟨rfl, hv⟩ := hI
  unfold B_X7_manyShaded_7
  refine zk_ite (fun _ => zk_some rfl) (fun hn => ?_)
  have hl := sb_less v hn
  exact ih _ _ σ ⟨rfl, by omega⟩ hl
theorem m_count (a1 : Int32) (σ : zg_S) (h : IM σ) : zk (f_X7_count a1 σ) (fun _ s => IM s) := by
  unfold f_X7_count
  refine zk_ite (fun _ => zk_some h) (fun _ => zk_ite (fun _ => zk_some h) (fun _ => zk_ite (fun _ => ?_) (fun _ => zk_ite (fun _ => zk_some h) (fun _ => zk_ite (fun _ => zk_some h) (fun _ => zk_ite (fun _ => zk_some h) (fun _ => zk_ite (fun _ => zk_some h) (fun _ => zk_some h)))))))
  refine zk_call (m_manyShaded σ h.1) (fun r s hp => ?_)
  subst hp
  exact zk_some h
