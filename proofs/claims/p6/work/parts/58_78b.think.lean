/-! what is only thought -/
theorem r_by (τ : zg_S) : zk (f_X7_laysBy τ) (fun _ s => (∀ k, k < 47 → s 12 k = τ 1 k) ∧ ∀ p, p ≠ 12 → s p = τ p) := by
  have e0 := zt_0
  have e9 := zt_47
  have e1 := zt_1
  unfold f_X7_laysBy L_X7_laysBy_2
  refine zl_I (fun (x : Int32) (s : zg_S) => (∀ k : Nat, (k : Int) < x.toInt → s 12 k = τ 1 k) ∧ (∀ p, p ≠ 12 → s p = τ p) ∧ 0 ≤ x.toInt ∧ x.toInt ≤ 47) (fun (x : Int32) (_ : zg_S) => (47 - x.toInt).toNat) ?_ zfu _ _ ⟨fun k hk => by omega, fun p _ => rfl, by omega, by omega⟩ (by unfold zfu; omega)
  intro rec x s hI ih
  obtain ⟨ha, hp, i1, i2⟩ := hI
  unfold B_X7_laysBy_2
  refine zk_ite (fun h => ?_) (fun h => ?_)
  · have g := zle h
    exact zk_some ⟨fun k hk => ha k (by omega), hp⟩
  · have g := znle h
    refine zk_in (zin_mk i1 (by omega)) ?_
    refine zk_in (zin_mk i1 (by omega)) ?_
    refine zk_let (fun t q => ?_)
    have hn := ztn i1
    have ex := zTe (zTadd (zTs x) (zTl zt_1) (by omega) (by omega))
    refine ih (x + 1) t ⟨?_, ?_, ?_, ?_⟩ ?_
    · intro k hk
      rw [ex] at hk
      rw [q]
      by_cases e : k = x.toNatClampNeg
      · subst e
        exact zgot.trans (by rw [hp 1 (by decide)])
      · exact (zkeepn e).trans (ha k (by omega))
    · intro p' h'
      rw [q]
      exact (zg_row_ne h').trans (hp p' h')
    · rw [ex]; omega
    · rw [ex]; omega
    · show (47 - (x + 1).toInt).toNat < (47 - x.toInt).toNat
      rw [ex]
      omega
theorem r_bk (τ : zg_S) : zk (f_X7_laysBack τ) (fun _ s => (∀ k, k < 47 → s 1 k = τ 12 k) ∧ (∀ k, 47 ≤ k → s 1 k = τ 1 k) ∧ ∀ p, p ≠ 1 → s p = τ p) := by
  have e0 := zt_0
  have e9 := zt_47
  have e1 := zt_1
  unfold f_X7_laysBack L_X7_laysBack_2
  refine zl_I (fun (x : Int32) (s : zg_S) => (∀ k : Nat, (k : Int) < x.toInt → s 1 k = τ 12 k) ∧ (∀ k : Nat, x.toInt ≤ k → s 1 k = τ 1 k) ∧ (∀ p, p ≠ 1 → s p = τ p) ∧ 0 ≤ x.toInt ∧ x.toInt ≤ 47) (fun (x : Int32) (_ : zg_S) => (47 - x.toInt).toNat) ?_ zfu _ _ ⟨fun k hk => by omega, fun k _ => rfl, fun p _ => rfl, by omega, by omega⟩ (by unfold zfu; omega)
  intro rec x s hI ih
  obtain ⟨ha, hb, hp, i1, i2⟩ := hI
  unfold B_X7_laysBack_2
  refine zk_ite (fun h => ?_) (fun h => ?_)
  · have g := zle h
    exact zk_some ⟨fun k hk => ha k (by omega), fun k hk => hb k (by omega), hp⟩
  · have g := znle h
    refine zk_in (zin_mk i1 (by omega)) ?_
    refine zk_let (fun y ey => ?_)
    refine zk_in (zin_mk i1 (by omega)) ?_
    refine zk_let (fun t q => ?_)
    have hn := ztn i1
    have ex := zTe (zTadd (zTs x) (zTl zt_1) (by omega) (by omega))
    refine ih (x + 1) t ⟨?_, ?_, ?_, ?_, ?_⟩ ?_
    · intro k hk
      rw [ex] at hk
      rw [q]
      by_cases e : k = x.toNatClampNeg
      · subst e
        exact zgot.trans (by rw [ey, hp 12 (by decide)])
      · exact (zkeepn e).trans (ha k (by omega))
    · intro k hk
      rw [ex] at hk
      rw [q]
      exact (zkeepn (by omega)).trans (hb k (by omega))
    · intro p' h'
      rw [q]
      exact (zg_row_ne h').trans (hp p' h')
    · rw [ex]; omega
    · rw [ex]; omega
    · show (47 - (x + 1).toInt).toNat < (47 - x.toInt).toNat
      rw [ex]
      omega
/-- what is to come back lies by -/
def KB (τ s : zg_S) : Prop := (∀ k, k < 47 → s 12 k = τ 1 k) ∧ ∀ p k, sideM p k → s p k = τ p k
theorem r_by' (τ : zg_S) : zk (f_X7_laysBy τ) (fun _ s => s 1 = τ 1 ∧ KB τ s) := zk_mono (r_by τ) (fun _ s h => ⟨h.2 1 (by decide), h.1, fun p k hp => congrFun (h.2 p (by unfold sideM at hp; omega)) k⟩)
theorem r_bk' {τ s : zg_S} (b : KB τ s) (h : ∀ k, 47 ≤ k → s 1 k = τ 1 k) : zk (f_X7_laysBack s) (fun _ t => t 1 = τ 1 ∧ KB τ t) := by
  refine zk_mono (r_bk s) (fun _ t q => ?_)
  obtain ⟨x, y, z⟩ := q
  refine ⟨funext (fun k => ?_), fun k hk => ?_, fun p k hp => ?_⟩
  · by_cases c : k < 47
    · exact (x k c).trans (b.1 k c)
    · exact (y k (by omega)).trans (h k (by omega))
  · rw [z 12 (by decide)]
    exact b.1 k hk
  · rw [z p (by unfold sideM at hp; omega)]
    exact b.2 p k hp
theorem KB.w {τ s t : zg_S} {W : Nat → Nat → Prop} (b : KB τ s) (h : wr W s t) (hW : ∀ p k, W p k → p = 1 ∨ p = 14 ∨ p = 15) : KB τ t := ⟨fun k hk => (h 12 k (fun z => by have := hW 12 k z; omega)).trans (b.1 k hk), fun p k hp => (h p k (fun z => by have := hW p k z; unfold sideM at hp; omega)).trans (b.2 p k hp)⟩
theorem r_many {s : zg_S} {g : Nat → Int32} (h1 : s 1 = g) (o : gOK g) (hC : gC g) (hV : tvs g) (a : Int32) (ha : a.toInt ≤ 100) (h2 : (g 2).toInt ≤ 10000) : zk (f_X7_goesOnMany a s) (fun _ t => t 1 = sGn g a.toInt.toNat ∧ wr W_X7_goesOnMany s t) := by
  have e0 := zt_0
  have e1 := zt_1
  refine zk_w ?_ (w_X7_goesOnMany a s)
  unfold f_X7_goesOnMany L_X7_goesOnMany_2
  refine zl_I (fun (x : Int32) (t : zg_S) => ∃ i : Nat, x.toInt = i ∧ i ≤ a.toInt.toNat ∧ t 1 = sGn g i) (fun (x : Int32) (_ : zg_S) => (101 - x.toInt).toNat) ?_ zfu _ _ ⟨0, e0, by omega, h1⟩ (by unfold zfu; omega)
  intro rec x t hI ih
  obtain ⟨i, hi, hi2, ht⟩ := hI
  unfold B_X7_goesOnMany_2
  refine zk_ite (fun hle => ?_) (fun hlt => ?_)
  · have := zle hle
    exact zk_some (by rw [show a.toInt.toNat = i by omega]; exact ht)
  · have gl := znle hlt
    obtain ⟨x1, _, _, x4, _⟩ := sGn_ok o hC i (by omega)
    have ex := zTe (zTadd (zTs x) (zTl zt_1) (by omega) (by omega))
    refine zk_call (r_go ht x1 (hV.st x4)) (fun r u hq => ?_)
    exact ih (x + 1) u ⟨i + 1, by rw [ex, hi]; rfl, by omega, hq.1⟩ (by show (101 - (x + 1).toInt).toNat < (101 - x.toInt).toNat; rw [ex]; omega)
theorem c_think {s : zg_S} {g : Nat → Int32} (h : EQB s 165 g) (hT : TXR s 165 g) (o : gOK g) (hC : gC g) (a : Int32) (ha : a.toInt ≤ 100) (h2 : (g 2).toInt ≤ 10000) : zk (f_X6_thinkOn a s) (fun _ t => (EQB t 165 (sGn g a.toInt.toNat) ∧ TXR t 165 (sGn g a.toInt.toNat)) ∧ wr W_X6_thinkOn s t) := by
  have e0 := zt_0
  have e1 := zt_1
  refine zk_w ?_ (w_X6_thinkOn a s)
  unfold f_X6_thinkOn L_X6_thinkOn_2
  refine zl_I (fun (x : Int32) (t : zg_S) => ∃ i : Nat, x.toInt = i ∧ i ≤ a.toInt.toNat ∧ EQB t 165 (sGn g i) ∧ TXR t 165 (sGn g i)) (fun (x : Int32) (_ : zg_S) => (101 - x.toInt).toNat) ?_ zfu _ _ ⟨0, e0, by omega, h, hT⟩ (by unfold zfu; omega)
  intro rec x t hI ih
  obtain ⟨i, hi, hi2, hE, hX⟩ := hI
  unfold B_X6_thinkOn_2
  refine zk_ite (fun hle => ?_) (fun hlt => ?_)
  · have := zle hle
    exact zk_some (by rw [show a.toInt.toNat = i by omega]; exact ⟨hE, hX⟩)
  · have gl := znle hlt
    obtain ⟨x1, _⟩ := sGn_ok o hC i (by omega)
    have ex := zTe (zTadd (zTs x) (zTl zt_1) (by omega) (by omega))
    refine c_go hE hX x1 (by decide) (fun r u hE' hX' _ => ?_)
    exact ih (x + 1) u ⟨i + 1, by rw [ex, hi]; rfl, by omega, hE', hX'⟩ (by show (101 - (x + 1).toInt).toNat < (101 - x.toInt).toNat; rw [ex]; omega)
/-- thought in the class: only the other bazaars and the stacks are written -/
theorem th {o o' : Option (Int32 × zg_S)} {W : Nat → Nat → Prop} {σ τ : zg_S} (h : RR σ τ) (hz : z2 o o' (fun r _ r' t => r = r' ∧ t 1 = τ 1 ∧ KB τ t)) (hw : zw W σ o) (hW : ∀ p k, W p k → ¬ sideC p k ∧ ¬ (153 ≤ p ∧ p ≤ 164)) : z2 o o' SM := by
  obtain ⟨r, s, r', t, e, e', q1, q2, q3⟩ := hz
  have a := hw r s e
  exact ⟨r, s, r', t, e, e', q1, h.same (fun p k hp => a p k (fun z => (hW p k z).1 hp)) (fun p k h1 h2 => a p k (fun z => (hW p k z).2 ⟨h1, h2⟩)) q3.2 q2⟩
theorem WT {p k : Nat} (h : (165 ≤ p ∧ p ≤ 176) ∨ (13 ≤ p ∧ p ≤ 52 ∧ p % 3 = 1)) : ¬ sideC p k ∧ ¬ (153 ≤ p ∧ p ≤ 164) := by
  unfold sideC
  omega
theorem KB0 {τ : zg_S} (h : ∀ k, k < 47 → τ 12 k = τ 1 k) : KB τ τ := ⟨h, fun _ _ _ => rfl⟩
/-- refused: nothing changes -/
theorem th0 {σ τ : zg_S} {o o' : Option (Int32 × zg_S)} {r : Int32} (h : RR σ τ) (e : o = some (r, σ)) (e' : o' = some (r, τ)) : z2 o o' SM := ⟨r, σ, r, τ, e, e', rfl, h⟩
/-- the bazaar of now, through what is thought -/
theorem now_w {σ s : zg_S} {g : Nat → Int32} (h : EQB σ 153 g) (hT : TXR σ 153 g) (hN : (g 0).toInt ≤ 9) (hn : (g 1).toInt ≤ 14) (hw : wr W_X6_thinkOn σ s) : EQB s 153 g ∧ TXR s 153 g := ⟨h.wr hN (fun q k _ _ => hw q k (by unfold W_X6_thinkOn; omega)), hT.wr hn (fun k => hw _ k (by unfold W_X6_thinkOn; omega)) (fun q k _ _ _ => hw q k (by unfold W_X6_thinkOn; omega))⟩
theorem tk_w {σ s : zg_S} (h : wr (W_X0_takeOver 165) σ s) : wr W_X6_thinkOn σ s := wr.tr wr.rf h (fun p k z => by unfold W_X0_takeOver at z; unfold W_X6_thinkOn; omega)
/-- take now over into the thought one -/
theorem c_over {σ s : zg_S} {g : Nat → Int32} (h : EQB σ 153 g) (hT : TXR σ 153 g) (o : gOK g) (hw : wr W_X6_thinkOn σ s) : zk (f_X0_takeOver 165 153 s) (fun _ t => (EQB t 165 g ∧ TXR t 165 g) ∧ wr W_X6_thinkOn σ t) := by
  obtain ⟨a, b⟩ := now_w h hT o.1.1.2 o.2.2.1.2 hw
  refine zk_mono (zk_w (c_takeOver (p := 165) a b o.1.1 o.2.2.1.2 (by decide) (by decide) (by decide)) (w_X0_takeOver 165 153 s)) (fun _ t q => ⟨q.1, hw.tr (tk_w q.2) (fun _ _ z => z)⟩)
theorem v_behind {σ τ : zg_S} (h : RR σ τ) (a b : Int32) : z2 (f_X6_behind a b σ) (f_X7_behind a b τ) SM := by
  have e0 := zt_0
  have e100 := zt_100
  obtain ⟨hE, hT, o, hC, h99⟩ := h.1
  by_cases ca : (0 : Int32).toInt ≤ a.toInt ∧ a.toInt ≤ (100 : Int32).toInt
  · by_cases cb : (0 : Int32).toInt ≤ b.toInt ∧ b.toInt ≤ (3 : Int32).toInt
    · refine th h ?_ (w_X6_behind a b σ) (fun p k z => WT z)
      unfold f_X6_behind f_X7_behind
      refine z2_eL (c_within1 σ ca) (z2_nL one_ne (z2_eL (c_within1 σ cb) (z2_nL one_ne ?_)))
      refine z2_eR (r_isIn1 τ ca) (z2_nR one_ne (z2_eR (r_isIn1 τ cb) (z2_nR one_ne ?_)))
      refine z2_cL (c_over hE hT o wr.rf) (fun _ s q => ?_)
      refine z2_cL (c_think q.1.1 q.1.2 o hC a (by omega) (by omega)) (fun _ s2 q2 => ?_)
      refine z2_cR (r_by' τ) (fun _ t p => ?_)
      refine z2_cR (r_many p.1 o hC hT.tv a (by omega) (by omega)) (fun _ t2 p2 => ?_)
      have kb := p.2.w p2.2 (fun p k z => by unfold W_X7_goesOnMany at z; omega)
      obtain ⟨_, _, _, st, _⟩ := sGn_ok o hC a.toInt.toNat (by omega)
      have fin : ∀ i : Nat, i < 11 → z2 (some (s2 165 (fm i), s2)) (B_X7_behind_84 a b (t2 1 i) t2) (fun r _ r' t => r = r' ∧ t 1 = τ 1 ∧ KB τ t) := fun i hi => by
        unfold B_X7_behind_84
        refine z2_cR (r_bk' kb (fun k hk => by rw [p2.1]; exact st.2 k hk)) (fun _ t3 p3 => z2_some ⟨?_, p3⟩)
        rw [p2.1]
        exact q2.1.1.f i hi
      refine z2_iL (fun hb => z2_pR hb (fin 4 (by decide))) (fun h0 => z2_nR h0 ?_)
      refine z2_iL (fun hb => z2_pR hb (fin 3 (by decide))) (fun h1 => z2_nR h1 ?_)
      exact z2_iL (fun hb => z2_pR hb (fin 7 (by decide))) (fun h2 => z2_nR h2 (fin 5 (by decide)))
    · refine th0 (r := -1000000001) h ?_ ?_
      · unfold f_X6_behind
        rw [c_within1 σ ca, zbd_s, if_neg one_ne, c_within0 σ cb]
        rfl
      · unfold f_X7_behind
        rw [r_isIn1 τ ca, zbd_s, if_neg one_ne, r_isIn0 τ cb]
        rfl
  · refine th0 (r := -1000000001) h ?_ ?_
    · unfold f_X6_behind
      rw [c_within0 σ ca]
      rfl
    · unfold f_X7_behind
      rw [r_isIn0 τ ca]
      rfl
theorem v_goods {σ τ : zg_S} (h : RR σ τ) (a b : Int32) : z2 (f_X6_goods a b σ) (f_X7_goods a b τ) SM := by
  have e0 := zt_0
  have e100 := zt_100
  obtain ⟨hE, hT, o, hC, h99⟩ := id h.1
  have es : σ 153 3 = τ 1 0 := h.f 0 (by decide)
  have n0 := o.1.1
  by_cases ca : 0 ≤ a.toInt ∧ a.toInt < (τ 1 0).toInt
  · have na := ztn ca.1
    by_cases cb : (0 : Int32).toInt ≤ b.toInt ∧ b.toInt ≤ (100 : Int32).toInt
    · refine th h ?_ (w_X6_goods a b σ) (fun p k z => WT z)
      unfold f_X6_goods f_X7_goods
      refine z2_eL (c_isStall1 (by rw [es]; exact ca)) (z2_nL one_ne (z2_eL (c_within1 σ cb) (z2_nL one_ne ?_)))
      refine z2_eR (r_isStall1 ca) (z2_nR one_ne (z2_eR (r_isIn1 τ cb) (z2_nR one_ne ?_)))
      refine z2_cL (c_over hE hT o wr.rf) (fun _ s q => ?_)
      refine z2_cL (c_think q.1.1 q.1.2 o hC b (by omega) (by omega)) (fun _ s2 q2 => ?_)
      refine z2_cR (r_by' τ) (fun _ t p => ?_)
      refine z2_cR (r_many p.1 o hC hT.tv b (by omega) (by omega)) (fun _ t2 p2 => ?_)
      have kb := p.2.w p2.2 (fun p k z => by unfold W_X7_goesOnMany at z; omega)
      obtain ⟨_, _, _, st, s0, _⟩ := sGn_ok o hC b.toInt.toNat (by omega)
      refine z2_pL (zin_mk ca.1 (by omega)) ?_
      refine z2_eR (r_of (k := a.toNatClampNeg) p2.1 (by omega) (by omega) zt_2 (by decide)) ?_
      refine z2_cR (r_bk' kb (fun k hk => by rw [p2.1]; exact st.2 k hk)) (fun _ t3 p3 => z2_some ⟨?_, p3⟩)
      exact q2.1.1.2 a.toNatClampNeg 2 (by rw [s0]; omega) (by decide)
    · refine th0 (r := -1000000001) h ?_ ?_
      · unfold f_X6_goods
        rw [c_isStall1 (by rw [es]; exact ca), zbd_s, if_neg one_ne, c_within0 σ cb]
        rfl
      · unfold f_X7_goods
        rw [r_isStall1 ca, zbd_s, if_neg one_ne, r_isIn0 τ cb]
        rfl
  · refine th0 (r := -1000000001) h ?_ ?_
    · unfold f_X6_goods
      rw [c_isStall0 (by rw [es]; exact n0.1) (by rw [es]; exact ca)]
      rfl
    · unfold f_X7_goods
      rw [r_isStall0 n0.1 ca]
      rfl
