/-- where the steps of a text that is read come to lie -/
def bb (σ : zg_S) : Nat := if (σ 1 1).toInt < 14 then 51 + 200 * (σ 1 1).toNatClampNeg else 2847
def pQ (σ : zg_S) (r : Int32) (s : zg_S) : Prop := IMc s ∧ (∀ p, p ≠ 0 → p ≠ 1 → s p = σ p) ∧ (∀ k, (k < 14 ∨ 24 < k) → s 0 k = σ 0 k) ∧ (∀ k, k < bb σ → s 1 k = σ 1 k) ∧ (r = -1 ∨ ((r = 0 ∨ r = 1 ∨ r = 2) ∧ 0 ≤ (s 0 22).toInt ∧ (s 0 22).toInt ≤ 96 ∧ dep (s 1) (bb σ) 0 (ml s) 0 = some 1))
theorem ps111 (x1 x2 : Int32) (σ s : zg_S) (hs : IMc s) (h1 : ∀ p, p ≠ 0 → p ≠ 1 → s p = σ p) (h2 : ∀ k, (k < 14 ∨ 24 < k) → s 0 k = σ 0 k) (h3 : ∀ k, k < bb σ → s 1 k = σ 1 k) (h4 : x2 = 0 ∨ ((x1 = 0 ∨ x1 = 1 ∨ x1 = 2) ∧ 0 ≤ (s 0 22).toInt ∧ (s 0 22).toInt ≤ 96 ∧ dep (s 1) (bb σ) 0 (ml s) 0 = some 1)) : zk (B_X7_parse_111 x1 x2 s) (pQ σ) := by
  have e0 := zt_0
  unfold B_X7_parse_111
  refine zk_let (fun t q => ?_)
  have ht : IMc t := by rw [q]; exact IMc.up hs (zTl zt_0) ⟨by omega, by omega⟩
  have k1 : ∀ p, p ≠ 0 → t p = s p := fun p hp => by rw [q]; exact zg_row_ne hp
  have k2 : ∀ k, k ≠ 14 → t 0 k = s 0 k := fun k hk => by rw [q]; exact zkeepn hk
  have c1 : ∀ p, p ≠ 0 → p ≠ 1 → t p = σ p := fun p a b => (k1 p a).trans (h1 p a b)
  have c2 : ∀ k, (k < 14 ∨ 24 < k) → t 0 k = σ 0 k := fun k hk => (k2 k (by omega)).trans (h2 k hk)
  have c3 : ∀ k, k < bb σ → t 1 k = σ 1 k := fun k hk => (congrFun (k1 1 (by decide)) k).trans (h3 k hk)
  refine zk_ite (fun _ => zk_some ⟨ht, c1, c2, c3, Or.inl rfl⟩) (fun hn => ?_)
  refine zk_some ⟨ht, c1, c2, c3, Or.inr ?_⟩
  have h := h4.resolve_left hn
  have e : ml t = ml s := congrArg Int32.toNatClampNeg (k2 22 (by decide))
  rw [k2 22 (by decide), e, k1 1 (by decide)]
  exact h
theorem ps60 (y0 : Int32) (σ s : zg_S) (hs : IMc s) (h1 : ∀ p, p ≠ 0 → s p = σ p) (h2 : ∀ k, (k < 15 ∨ 24 < k) → s 0 k = σ 0 k) (k16 : s 0 16 = 0) (k17 : s 0 17 = 3) (k20 : s 0 20 = 0) (k21 : s 0 21 = 0) (k22 : s 0 22 = 0) (hy : y0.toNatClampNeg = bb σ) (y1 : 51 ≤ y0.toInt) (y2 : y0.toInt ≤ 2847) : zk (B_X7_parse_60 y0 s) (pQ σ) := by
  have e0 := zt_0
  have f14 : 0 ≤ (s 0 14).toInt ∧ (s 0 14).toInt ≤ 96 := hs 0 14
  unfold B_X7_parse_60
  refine zk_let (fun t q => ?_)
  have ht : IMc t := by rw [q]; exact IMc.up hs (zTs _) trivial
  have kk : ∀ j, j ≠ 23 → t 0 j = s 0 j := fun j hj => by rw [q]; exact zkeepn hj
  have k1 : ∀ p, p ≠ 0 → t p = s p := fun p hp => by rw [q]; exact zg_row_ne hp
  have k23 : t 0 23 = y0 := by rw [q]; exact zgot
  refine zk_call (s_X7_nextToken t ht (by rw [kk 16 (by decide), kk 14 (by decide), k16]; omega)) (fun r u hp => ?_)
  obtain ⟨hu, ku, n1, n2, n3, n4, n5⟩ := hp
  have g1 : ∀ p, p ≠ 0 → u p = σ p := fun p hp => (ku.1 p hp).trans ((k1 p hp).trans (h1 p hp))
  have g2 : ∀ k, (k < 15 ∨ 24 < k) → u 0 k = σ 0 k := fun k hk => (ku.2 k (by omega)).trans ((kk k (by omega)).trans (h2 k hk))
  have u20 : u 0 20 = 0 := (ku.2 20 (by decide)).trans ((kk 20 (by decide)).trans k20)
  have u21 : u 0 21 = 0 := (ku.2 21 (by decide)).trans ((kk 21 (by decide)).trans k21)
  have u22 : u 0 22 = 0 := (ku.2 22 (by decide)).trans ((kk 22 (by decide)).trans k22)
  have u23 : u 0 23 = y0 := (ku.2 23 (by decide)).trans k23
  have f15 : 0 ≤ (u 0 15).toInt ∧ (u 0 15).toInt ≤ 96 := hu 0 15
  have hps : PS u := by
    refine ⟨hu, ?_, n2, by rw [ku.n]; exact n3, ?_, by rw [u22]; omega, by rw [u20]; omega, by rw [u20]; omega, by rw [u21]; omega, by rw [u21]; omega⟩
    · unfold sB
      rw [u22, u23]
      exact ⟨by omega, by omega, y1, y2⟩
    · rcases n5 with ⟨_, n5, _⟩ | ⟨n5, _⟩ | ⟨n5, _⟩ | ⟨n5, _⟩
      · exact Or.inl n5
      · exact Or.inr n5
      · exact Or.inr n5
      · exact Or.inr (by omega)
  refine zk_call (m_key u hu) (fun r2 u2 hp => ?_)
  obtain ⟨rfl, hr⟩ := hp
  refine zk_ite (fun _ => ?_) (fun hneg => ?_)
  · unfold B_X7_parse_81
    refine zk_ite (fun _ => ?_) (fun z => absurd rfl z)
    exact ps111 r2 0 σ u hu (fun p a _ => g1 p a) (fun k hk => g2 k (by omega)) (fun k _ => congrFun (g1 1 (by decide)) k) (Or.inl rfl)
  · have hk : r2 = 0 ∨ r2 = 1 ∨ r2 = 2 := hr.resolve_left (fun z => hneg (by rw [z]; decide))
    unfold B_X7_parse_81
    refine zk_ite (fun z => absurd z (by decide)) (fun _ => ?_)
    refine nx hps (fun _ v pv kv _ _ => ?_)
    have v20 : v 0 20 = 0 := (kv.2 20 (by decide)).trans u20
    have v21 : v 0 21 = 0 := (kv.2 21 (by decide)).trans u21
    have v22 : v 0 22 = 0 := (kv.2 22 (by decide)).trans u22
    have v23 : v 0 23 = y0 := (kv.2 23 (by decide)).trans u23
    have mbv : mb v = bb σ := by unfold mb; rw [v23]; exact hy
    have mlv : ml v = 0 := by unfold ml; rw [v22]; rfl
    refine zk_call (s_G_mp 128 0 r2 v (by decide) pv (by unfold mN; rw [v20, v21]; decide)) (fun r3 w hp => ?_)
    obtain ⟨⟨hw, fw, w1, w2, w3⟩, hr3⟩ := hp
    have i1 : ∀ p, p ≠ 0 → p ≠ 1 → w p = σ p := fun p a b => (fw.1 p a b).trans ((kv.1 p a).trans (g1 p a))
    have i2 : ∀ k, (k < 14 ∨ 24 < k) → w 0 k = σ 0 k := fun k hk => (fw.2.1 k (by omega)).trans ((kv.2 k (by omega)).trans (g2 k (by omega)))
    have i3 : ∀ k, k < bb σ → w 1 k = σ 1 k := fun k hk => (fw.2.2 k (by rw [mbv]; omega)).trans ((congrFun (kv.1 1 (by decide)) k).trans (congrFun (g1 1 (by decide)) k))
    have bad : zk (B_X7_parse_109 r2 w) (pQ σ) := by
      unfold B_X7_parse_109 B_X7_parse_110
      exact ps111 r2 0 σ w hw i1 i2 i3 (Or.inl rfl)
    refine zk_ite (fun _ => bad) (fun hn => ?_)
    refine zk_ite (fun _ => ?_) (fun _ => bad)
    obtain ⟨-, pw, _, _, _, _, _, _, hd⟩ := hr3.resolve_left hn
    unfold B_X7_parse_110
    refine ps111 r2 1 σ w hw i1 i2 i3 (Or.inr ⟨hk, pw.2.1.1, w2, ?_⟩)
    have a := hd 0
    rw [mbv, mlv] at a
    exact a
theorem m_parse (σ : zg_S) (h : IMc σ) : zk (f_X7_parse σ) (pQ σ) := by
  have e0 := zt_0
  have e14 := zt_14
  have e4 := zt_4
  have f11 : 0 ≤ (σ 1 1).toInt ∧ (σ 1 1).toInt ≤ 14 := h 1 1
  unfold f_X7_parse
  refine zk_let (fun s1 q1 => ?_)
  have h1 : IMc s1 := by rw [q1]; exact IMc.up h (zTl zt_0) ⟨by omega, by omega⟩
  refine zk_let (fun s2 q2 => ?_)
  have h2 : IMc s2 := by rw [q2]; exact IMc.up h1 (zTs _) trivial
  refine zk_let (fun s3 q3 => ?_)
  have h3 : IMc s3 := by rw [q3]; exact IMc.up h2 (zTs _) trivial
  refine zk_let (fun s4 q4 => ?_)
  have h4 : IMc s4 := by rw [q4]; exact IMc.up h3 (zTs _) trivial
  refine zk_let (fun s5 q5 => ?_)
  have h5 : IMc s5 := by rw [q5]; exact IMc.up h4 (zTs _) trivial
  refine zk_let (fun s6 q6 => ?_)
  have h6 : IMc s6 := by rw [q6]; exact IMc.up h5 (zTs _) trivial
  have r : ∀ p, p ≠ 0 → s6 p = σ p := fun p hp => by
    rw [q6]; refine (zg_row_ne hp).trans ?_
    rw [q5]; refine (zg_row_ne hp).trans ?_
    rw [q4]; refine (zg_row_ne hp).trans ?_
    rw [q3]; refine (zg_row_ne hp).trans ?_
    rw [q2]; refine (zg_row_ne hp).trans ?_
    rw [q1]; exact zg_row_ne hp
  have k : ∀ j, (j < 15 ∨ 24 < j) → s6 0 j = σ 0 j := fun j hj => by
    rw [q6]; refine (zkeepn (by omega)).trans ?_
    rw [q5]; refine (zkeepn (by omega)).trans ?_
    rw [q4]; refine (zkeepn (by omega)).trans ?_
    rw [q3]; refine (zkeepn (by omega)).trans ?_
    rw [q2]; refine (zkeepn (by omega)).trans ?_
    rw [q1]; exact zkeepn (by omega)
  have k22 : s6 0 22 = 0 := by rw [q6]; refine (zkeepf rfl).trans ?_; rw [q5]; exact zgot
  have k21 : s6 0 21 = 0 := by rw [q6]; refine (zkeepf rfl).trans ?_; rw [q5]; refine (zkeepf rfl).trans ?_; rw [q4]; exact zgot
  have k20 : s6 0 20 = 0 := by rw [q6]; refine (zkeepf rfl).trans ?_; rw [q5]; refine (zkeepf rfl).trans ?_; rw [q4]; refine (zkeepf rfl).trans ?_; rw [q3]; exact zgot
  have k17 : s6 0 17 = 3 := by rw [q6]; refine (zkeepf rfl).trans ?_; rw [q5]; refine (zkeepf rfl).trans ?_; rw [q4]; refine (zkeepf rfl).trans ?_; rw [q3]; refine (zkeepf rfl).trans ?_; rw [q2]; exact zgot
  have k16 : s6 0 16 = 0 := by rw [q6]; refine (zkeepf rfl).trans ?_; rw [q5]; refine (zkeepf rfl).trans ?_; rw [q4]; refine (zkeepf rfl).trans ?_; rw [q3]; refine (zkeepf rfl).trans ?_; rw [q2]; refine (zkeepf rfl).trans ?_; rw [q1]; exact zgot
  have r11 : s6 1 1 = σ 1 1 := congrFun (r 1 (by decide)) 1
  rw [r11]
  refine zk_ite (fun hl => ?_) (fun hl => ?_)
  · have g := zle hl
    exact ps60 2847 σ s6 h6 r k k16 k17 k20 k21 k22 (by unfold bb; rw [if_neg (by omega)]; rfl) (by decide) (by decide)
  · have g := znle hl
    refine zk_call (s_X7_textAt (σ 1 1) s6 h6 f11.1 (by omega)) (fun rr t hp => ?_)
    obtain ⟨rfl, hr⟩ := hp
    have ea := zTadd (zTl hr) (zTl zt_4) (by omega) (by omega)
    have n1 := ztn f11.1
    exact ps60 (rr + 4) σ s6 h6 r k k16 k17 k20 k21 k22 (by unfold bb; rw [if_pos (by omega)]; exact zTn ea (by omega)) (by rw [zTe ea]; omega) (by rw [zTe ea]; omega)
theorem WF_low {σ s : zg_S} (h11 : 0 ≤ (σ 1 1).toInt ∧ (σ 1 1).toInt ≤ 14) (w : WF (σ 1)) (h : ∀ k, k < bb σ → s 1 k = σ 1 k) (t : Nat) (ht : (t : Int) < (σ 1 1).toInt) : wfT (s 1) (47 + 200 * t) := by
  refine wfT_eq (fun j hj => h _ ?_) (w t ht)
  have n1 := ztn h11.1
  unfold bb
  by_cases c : (σ 1 1).toInt < 14
  · rw [if_pos c]; omega
  · rw [if_neg c]; omega
theorem m_text (σ : zg_S) (h : IM σ) : zk (f_X7_text σ) (fun _ s => IM s) := by
  obtain ⟨hc, w1, w2⟩ := h
  have e0 := zt_0
  have e1 := zt_1
  have e2 := zt_2
  have e14 := zt_14
  have f11 : 0 ≤ (σ 1 1).toInt ∧ (σ 1 1).toInt ≤ 14 := hc 1 1
  have n1 := ztn f11.1
  unfold f_X7_text
  refine zk_call (m_parse σ hc) (fun r s hp => ?_)
  obtain ⟨hs, p1, p2, p3, p4⟩ := hp
  have hb : 2 ≤ bb σ := by
    unfold bb
    by_cases c : (σ 1 1).toInt < 14
    · rw [if_pos c]; omega
    · rw [if_neg c]; omega
  have s11 : s 1 1 = σ 1 1 := p3 1 (by omega)
  have im : ¬ s 0 3 = 0 → WF (s 2) := fun hn => by
    rw [p1 2 (by decide) (by decide)]
    exact w2 (by rw [← p2 3 (by decide)]; exact hn)
  have hM : IM s := ⟨hs, fun t ht => by rw [s11] at ht; exact WF_low f11 w1 p3 t ht, im⟩
  refine zk_ite (fun hge => ?_) (fun _ => zk_some hM)
  refine zk_ite (fun _ => zk_some hM) (fun hne => ?_)
  rw [s11] at hne ⊢
  have g := zne hne
  have hlt : (σ 1 1).toInt < 14 := by omega
  have hbb : bb σ = 51 + 200 * (σ 1 1).toNatClampNeg := by unfold bb; rw [if_pos hlt]
  obtain ⟨hk, l0, l1, hd⟩ := p4.resolve_left (fun z => absurd hge (by rw [z]; decide))
  refine zk_call (s_X7_textAt (σ 1 1) s hs f11.1 (by omega)) (fun r14 t hp => ?_)
  obtain ⟨rfl, hr⟩ := hp
  have z0 := zTadd (zTl hr) (zTl zt_0) (by omega) (by omega)
  have z1 := zTadd (zTl hr) (zTl zt_1) (by omega) (by omega)
  have z2 := zTadd (zTl hr) (zTl zt_2) (by omega) (by omega)
  have i0 : (r14 + 0).toNatClampNeg = 47 + 200 * (σ 1 1).toNatClampNeg := zTn z0 (by omega)
  have i1 : (r14 + 1).toNatClampNeg = 47 + 200 * (σ 1 1).toNatClampNeg + 1 := zTn z1 (by omega)
  have i2 : (r14 + 2).toNatClampNeg = 47 + 200 * (σ 1 1).toNatClampNeg + 2 := zTn z2 (by omega)
  refine zk_in (zin_mkT z0 (by omega) (by omega)) ?_
  rw [i0]
  refine zk_let (fun t1 q1 => ?_)
  have h1 : IMc t1 := by rw [q1]; exact IMc.up hs (zTs _) (mcon1 (by omega))
  refine zk_in (zin_mkT z1 (by omega) (by omega)) ?_
  rw [i1]
  refine zk_let (fun t2 q2 => ?_)
  have h2 : IMc t2 := by rw [q2]; exact IMc.up h1 (zTs _) (mcon1 (by omega))
  refine zk_in (zin_mkT z2 (by omega) (by omega)) ?_
  rw [i2]
  refine zk_let (fun t3 q3 => ?_)
  have h3 : IMc t3 := by rw [q3]; exact IMc.up h2 (zTs _) (mcon1 (by omega))
  have rr : ∀ p, p ≠ 1 → t3 p = s p := fun p hp => by
    rw [q3]; refine (zg_row_ne hp).trans ?_
    rw [q2]; refine (zg_row_ne hp).trans ?_
    rw [q1]; exact zg_row_ne hp
  have t311 : t3 1 1 = σ 1 1 := by
    rw [q3]; refine (zkeepn (by omega)).trans ?_
    rw [q2]; refine (zkeepn (by omega)).trans ?_
    rw [q1]; exact (zkeepn (by omega)).trans s11
  rw [t311]
  have ea := zTadd (zTs (σ 1 1)) (zTl zt_1) (by omega) (by omega)
  refine zk_let (fun t4 q4 => ?_)
  have h4 : IMc t4 := by rw [q4]; exact IMc.up h3 ea ⟨by omega, by omega⟩
  have r4 : ∀ p, p ≠ 1 → t4 p = s p := fun p hp => by
    rw [q4]; exact (zg_row_ne hp).trans (rr p hp)
  have k4 : ∀ j, j ≠ 1 → (j < 47 + 200 * (σ 1 1).toNatClampNeg ∨ 47 + 200 * (σ 1 1).toNatClampNeg + 2 < j) → t4 1 j = s 1 j := fun j hj hj2 => by
    rw [q4]; refine (zkeepn hj).trans ?_
    rw [q3]; refine (zkeepn (by omega)).trans ?_
    rw [q2]; refine (zkeepn (by omega)).trans ?_
    rw [q1]; exact zkeepn (by omega)
  have k42 : t4 1 (47 + 200 * (σ 1 1).toNatClampNeg + 2) = s 0 22 := by
    rw [q4]; refine (zkeepn (by omega)).trans ?_
    rw [q3]; refine zgot.trans ?_
    rw [q2]; refine (congrFun (zup_ne rfl) 22).trans ?_
    rw [q1]; exact congrFun (zup_ne rfl) 22
  have t411 : (t4 1 1).toInt = (σ 1 1).toInt + 1 := by rw [q4]; exact (congrArg Int32.toInt zgot).trans (zTe ea)
  refine zk_some ⟨h4, fun t ht => ?_, fun hn => ?_⟩
  · rw [t411] at ht
    by_cases c : (t : Int) < (σ 1 1).toInt
    · exact wfT_eq (fun j hj => k4 _ (by omega) (by omega)) (WF_low f11 w1 p3 t c)
    · have et : t = (σ 1 1).toNatClampNeg := by omega
      subst et
      unfold wfT
      rw [k42]
      refine ⟨l0, by omega, ?_⟩
      rw [hbb] at hd
      have nl := ztn l0
      rw [show 47 + 200 * (σ 1 1).toNatClampNeg + 4 = 51 + 200 * (σ 1 1).toNatClampNeg by omega]
      refine (dep_eq _ _ _ (fun j _ hj => ?_)).trans hd
      exact ⟨k4 _ (by omega) (by omega), k4 _ (by omega) (by omega)⟩
  · rw [r4 2 (by decide)]
    exact im (by rw [← r4 0 (by decide)]; exact hn)
