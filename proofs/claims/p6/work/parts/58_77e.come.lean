/-! stalls come -/
def sOpen (g : Nat → Int32) (a b c : Int32) : Nat → Int32 := upd (upd (upd (upd (upd g 0 (g 0 + 1)) (11 + 4 * (g 0).toNatClampNeg + 0) a) (11 + 4 * (g 0).toNatClampNeg + 1) b) (11 + 4 * (g 0).toNatClampNeg + 2) 100) (11 + 4 * (g 0).toNatClampNeg + 3) c
theorem sOpen_c {g : Nat → Int32} {a b c : Int32} {i : Nat} (h0 : i ≠ 0) (h : i < 11 + 4 * (g 0).toNatClampNeg ∨ 11 + 4 * (g 0).toNatClampNeg + 3 < i) : sOpen g a b c i = g i := by
  unfold sOpen
  rw [pk_un (by omega), pk_un (by omega), pk_un (by omega), pk_un (by omega), pk_un h0]
theorem sOpen_0 {g : Nat → Int32} {a b c : Int32} : sOpen g a b c 0 = g 0 + 1 := by
  unfold sOpen
  rw [pk_un (by omega), pk_un (by omega), pk_un (by omega), pk_un (by omega), pk_us]
theorem sOpen_s {g : Nat → Int32} {a b c : Int32} : sOpen g a b c (11 + 4 * (g 0).toNatClampNeg) = a ∧ sOpen g a b c (11 + 4 * (g 0).toNatClampNeg + 1) = b ∧ sOpen g a b c (11 + 4 * (g 0).toNatClampNeg + 2) = 100 ∧ sOpen g a b c (11 + 4 * (g 0).toNatClampNeg + 3) = c := by
  unfold sOpen
  refine ⟨?_, ?_, ?_, ?_⟩
  · rw [pk_un (by omega), pk_un (by omega), pk_un (by omega)]
    exact pk_us
  · rw [pk_un (by omega), pk_un (by omega), pk_us]
  · rw [pk_un (by omega), pk_us]
  · rw [pk_us]
theorem sOpen_ok {g : Nat → Int32} {a b c : Int32} (o : gOK g) (hN : (g 0).toInt < 9) (ha : 0 ≤ a.toInt ∧ a.toInt ≤ 5) (hb : 0 ≤ b.toInt ∧ b.toInt ≤ 11) (hc : 0 ≤ c.toInt ∧ c.toInt ≤ 99) : gOK (sOpen g a b c) := by
  obtain ⟨n0, n2, n8, n7, n9, n10⟩ := id o.1
  have nn := ztn n0.1
  have e1 := zt_1
  have ea := zTe (zTadd (zTs (g 0)) (zTl zt_1) (by omega) (by omega))
  refine o.tx ⟨sOpen_c (by decide) (by omega), fun i hi => sOpen_c (by omega) (by omega)⟩ ?_ (fun k hk => ?_)
  · unfold gB
    rw [sOpen_0, sOpen_c (by decide) (by omega), sOpen_c (i := 8) (by decide) (by omega), sOpen_c (i := 7) (by decide) (by omega), sOpen_c (i := 9) (by decide) (by omega), sOpen_c (i := 10) (by decide) (by omega), ea]
    exact ⟨by omega, n2, n8, n7, n9, n10⟩
  · rw [sOpen_0, ea] at hk
    by_cases e : k = (g 0).toNatClampNeg
    · subst e
      obtain ⟨s0, s1, s2, s3⟩ := sOpen_s (g := g) (a := a) (b := b) (c := c)
      unfold gSb
      rw [s0, s1, s2, s3]
      exact ⟨ha, hb, by decide, hc⟩
    · exact gSb_eq (fun j hj => sOpen_c (by omega) (by omega)) (o.2.1 k (by omega))
theorem sOpen_st {g : Nat → Int32} {a b c : Int32} (hN : 0 ≤ (g 0).toInt ∧ (g 0).toInt < 9) : STx g (sOpen g a b c) := by
  have nn := ztn hN.1
  exact ⟨sOpen_c (by decide) (by omega), fun i hi => sOpen_c (by omega) (by omega)⟩
theorem sOpen_C {g : Nat → Int32} {a b c : Int32} (h : gC g) : gC (sOpen g a b c) := by
  unfold gC
  rw [sOpen_c (i := 3) (by decide) (by omega), sOpen_c (i := 2) (by decide) (by omega), sOpen_c (i := 4) (by decide) (by omega), sOpen_c (i := 5) (by decide) (by omega)]
  exact h
theorem c_open {σ : zg_S} {p : Nat} {g : Nat → Int32} (h : EQB σ p g) (hT : TXR σ p g) (hp : 53 ≤ p) (hn : (g 1).toInt ≤ 14) (hN : 0 ≤ (g 0).toInt ∧ (g 0).toInt < 9) (a b c : Int32) : zk (f_X0_open p a b c σ) (fun r s => r = g 0 ∧ EQB s p (sOpen g a b c) ∧ TXR s p (sOpen g a b c)) := by
  have nn := ztn hN.1
  have e9 := zt_m9
  have e1 := zt_1
  have ea := zTe (zTadd (zTs (g 0)) (zTl zt_1) (by omega) (by omega))
  suffices hz : zk (f_X0_open p a b c σ) (fun r s => r = g 0 ∧ EQB s p (sOpen g a b c)) from zk_mono (zk_w hz (w_X0_open p a b c σ)) (fun r s hq => ⟨hq.1.1, hq.1.2, (hT.wr hn (fun k => hq.2 _ k (by unfold W_X0_open; omega)) (fun q k _ _ _ => hq.2 q k (by unfold W_X0_open; omega))).st (sOpen_st hN)⟩)
  unfold f_X0_open
  rw [show σ p 3 = g 0 from h.f 0 (by decide)]
  refine zk_ite (fun _ => ?_) (fun z => absurd (lt_i (by omega)) z)
  refine zk_in (zin_mk hN.1 (by omega)) ?_
  refine zk_let (fun s1 q1 => zk_let (fun s2 q2 => zk_let (fun s3 q3 => zk_let (fun s4 q4 => zk_let (fun s5 q5 => ?_)))))
  have fr : ∀ r, r ≠ p + 1 + 2 + (g 0).toNatClampNeg → s4 r = σ r := fun r hr => by
    rw [q4]; refine (zg_row_ne hr).trans ?_
    rw [q3]; refine (zg_row_ne hr).trans ?_
    rw [q2]; refine (zg_row_ne hr).trans ?_
    rw [q1]; exact zg_row_ne hr
  have v0 : s4 (p + 1 + 2 + (g 0).toNatClampNeg) 0 = a := by
    rw [q4]; refine (zkeepf rfl).trans ?_
    rw [q3]; refine (zkeepf rfl).trans ?_
    rw [q2]; refine (zkeepf rfl).trans ?_
    rw [q1]; exact zgot
  have v1 : s4 (p + 1 + 2 + (g 0).toNatClampNeg) 1 = b := by
    rw [q4]; refine (zkeepf rfl).trans ?_
    rw [q3]; refine (zkeepf rfl).trans ?_
    rw [q2]; exact zgot
  have v2 : s4 (p + 1 + 2 + (g 0).toNatClampNeg) 2 = 100 := by
    rw [q4]; refine (zkeepf rfl).trans ?_
    rw [q3]; exact zgot
  have v3 : s4 (p + 1 + 2 + (g 0).toNatClampNeg) 3 = c := by rw [q4]; exact zgot
  have k3 : s4 p 3 = g 0 := (congrFun (fr p (by omega)) 3).trans (h.f 0 (by decide))
  rw [k3] at q5
  have w3 : s5 p 3 = g 0 + 1 := by rw [q5]; exact zgot
  have f5 : ∀ r, r ≠ p → s5 r = s4 r := fun r hr => by rw [q5]; exact zg_row_ne hr
  refine zk_some ⟨by rw [w3]; exact Int32.add_sub_cancel _ _, fun i hi => ?_, fun k j hk hj => ?_⟩
  · by_cases e : i = 0
    · subst e
      rw [sOpen_0]
      exact w3
    · rw [sOpen_c e (by omega), q5]
      exact (zkeepn (fun z => e (fm_inj i hi 0 (by decide) z))).trans ((congrFun (fr p (by omega)) _).trans (h.1 i hi))
  · rw [sOpen_0, ea] at hk
    rw [f5 _ (by omega)]
    by_cases e : k = (g 0).toNatClampNeg
    · subst e
      obtain ⟨s0, s1', s2', s3'⟩ := sOpen_s (g := g) (a := a) (b := b) (c := c)
      match j, hj with
      | 0, _ => exact v0.trans s0.symm
      | 1, _ => exact v1.trans s1'.symm
      | 2, _ => exact v2.trans s2'.symm
      | 3, _ => exact v3.trans s3'.symm
    · rw [sOpen_c (by omega) (by omega), fr _ (by omega)]
      exact h.2 k j (by omega) hj
theorem r_comes {τ : zg_S} {g : Nat → Int32} (h1 : τ 1 = g) (hN : 0 ≤ (g 0).toInt ∧ (g 0).toInt < 9) (a b c : Int32) : zk (f_X7_comes a b c τ) (fun _ t => t 1 = sOpen g a b c) := by
  have nn := ztn hN.1
  have hn : (g 0).toInt = (g 0).toNatClampNeg := by omega
  unfold f_X7_comes
  rw [h1]
  refine zk_let (fun s0 q0 => ?_)
  have r0 : s0 1 = upd g 0 (g 0 + 1) := by rw [q0]; exact up_row h1
  refine zk_e (r_sets r0 hn (by omega) zt_0 (by decide)) ?_
  have r1 := up_row (k := 11 + 4 * (g 0).toNatClampNeg + 0) (v := a) r0
  refine zk_e (r_sets r1 hn (by omega) zt_1 (by decide)) ?_
  have r2 := up_row (k := 11 + 4 * (g 0).toNatClampNeg + 1) (v := b) r1
  refine zk_e (r_sets r2 hn (by omega) zt_2 (by decide)) ?_
  have r3 := up_row (k := 11 + 4 * (g 0).toNatClampNeg + 2) (v := 100) r2
  refine zk_e (r_sets r3 hn (by omega) zt_3 (by decide)) ?_
  exact zk_some (up_row r3)
theorem v_stall {σ τ : zg_S} (h : RR σ τ) (a b c : Int32) : z2 (f_X6_stall a b c σ) (f_X7_stall a b c τ) SM := by
  have e0 := zt_0
  have e1 := zt_1
  have e5 := zt_5
  have e11 := zt_11
  have e99 := zt_99
  have e9 := zt_m9
  have o := h.1.2.2.1
  obtain ⟨n0, _⟩ := id o.1
  unfold f_X6_stall f_X7_stall
  refine z2_within (fun _ => z2_pL rfl (z2_pR rfl (z2_some (SM.rf h)))) (fun a1 a2 => z2_nL one_ne (z2_nR one_ne ?_))
  refine z2_within (fun _ => z2_pL rfl (z2_pR rfl (z2_some (SM.rf h)))) (fun b1 b2 => z2_nL one_ne (z2_nR one_ne ?_))
  refine z2_within (fun _ => z2_pL rfl (z2_pR rfl (z2_some (SM.rf h)))) (fun c1 c2 => z2_nL one_ne (z2_nR one_ne ?_))
  rw [show σ 153 3 = τ 1 0 from h.f 0 (by decide)]
  refine z2_iL (fun hc => ?_) (fun hc => ?_)
  · have gc := zlt hc
    refine z2_nR (fun z => by have := zeq z; omega) ?_
    have hN : 0 ≤ (τ 1 0).toInt ∧ (τ 1 0).toInt < 9 := ⟨n0.1, by omega⟩
    refine z2_cL (zk_w (c_open h.1.1 h.1.2.1 (by decide) o.2.2.1.2 hN a b c) (w_X0_open 153 a b c σ)) (fun r s hp => ?_)
    refine z2_cR (zk_w (r_comes rfl hN a b c) (w_X7_comes a b c τ)) (fun r' t hp' => ?_)
    obtain ⟨⟨hr, hE, hT⟩, hw⟩ := hp
    obtain ⟨ht, hw'⟩ := hp'
    refine z2_some ⟨by rw [hr, ht, sOpen_0]; exact (Int32.add_sub_cancel _ _).symm, h.now (fun p k hp => hw p k (fun z => ?_)) (fun p k hp => hw' p k (fun z => ?_)) ?_ ?_⟩
    · unfold W_X0_open at z
      unfold sideC at hp
      omega
    · unfold W_X7_comes at z
      unfold sideM at hp
      omega
    · rw [ht, sOpen_c (by decide) (by omega)]
      exact Int.le_refl _
    · rw [ht]
      exact ⟨hE, hT, sOpen_ok o hN.2 (by omega) (by omega) (by omega), sOpen_C h.1.2.2.2.1, by rw [sOpen_c (i := 2) (by decide) (by omega)]; exact h.1.2.2.2.2⟩
  · have gc := znlt hc
    exact z2_pR (Int32.toInt_inj.mp (by omega)) (z2_some (SM.rf h))
/-! stalls by lot -/
theorem sD_b (z : Int32) : 0 ≤ (sD z).toInt ∧ (sD z).toInt < 16777216 := by
  have e : (sD z).toBitVec.toNat = z.toBitVec.toNat / 2 ^ 8 := pk_ushr z 8 8 (by decide)
  have hb := z.toBitVec.isLt
  have h2 : (sD z).toInt = (sD z).toBitVec.toInt := rfl
  have h3 : (sD z).toBitVec.toInt = (sD z).toBitVec.toNat := BitVec.toInt_eq_toNat_of_lt (by rw [e]; omega)
  rw [h2, h3, e]
  omega
def sDe (g : Nat → Int32) : Nat → Int32 := sOpen (upd g 6 (sZ (sZ (sZ (g 6))))) (sD (sZ (g 6)) - sD (sZ (g 6)) / 6 * 6) (sD (sZ (sZ (g 6))) - sD (sZ (sZ (g 6))) / 12 * 12) (sD (sZ (sZ (sZ (g 6)))) - sD (sZ (sZ (sZ (g 6)))) / 40 * 40)
def sDn (g : Nat → Int32) : Nat → Nat → Int32
  | 0 => g
  | n + 1 => sDe (sDn g n)
theorem sDe_ok {g : Nat → Int32} (o : gOK g) (hN : (g 0).toInt < 9) : gOK (sDe g) := by
  have a := zrem (sD (sZ (g 6))) 6 6 zt_6 (by decide) (by decide) (sD_b _).1
  have b := zrem (sD (sZ (sZ (g 6)))) 12 12 zt_12 (by decide) (by decide) (sD_b _).1
  have c := zrem (sD (sZ (sZ (sZ (g 6))))) 40 40 zt_40 (by decide) (by decide) (sD_b _).1
  exact sOpen_ok (o.lo (Or.inr (Or.inr (Or.inr rfl)))) (by rw [pk_un (by decide)]; exact hN) (by rw [a]; omega) (by rw [b]; omega) (by rw [c]; omega)
theorem sDe_c {g : Nat → Int32} {i : Nat} (h : i = 1 ∨ i = 2 ∨ i = 3 ∨ i = 4 ∨ i = 5) : sDe g i = g i := by
  unfold sDe
  rw [sOpen_c (by omega) (by omega), pk_un (by omega)]
theorem sDe_0 {g : Nat → Int32} : sDe g 0 = g 0 + 1 := by
  unfold sDe
  rw [sOpen_0, pk_un (by decide)]
theorem sDe_st {g : Nat → Int32} (hN : 0 ≤ (g 0).toInt ∧ (g 0).toInt < 9) : STx g (sDe g) := (STx.rf.up (i := 6) (v := sZ (sZ (sZ (g 6)))) (by decide) (by decide)).tr (sOpen_st (by rw [pk_un (by decide)]; exact hN))
theorem sDn_ok {g : Nat → Int32} (o : gOK g) (hC : gC g) (h99 : (g 2).toInt ≤ 9999) : ∀ n : Nat, (g 0).toInt + n ≤ 9 → gOK (sDn g n) ∧ gC (sDn g n) ∧ (sDn g n 2).toInt ≤ 9999 ∧ (sDn g n 0).toInt = (g 0).toInt + n ∧ sDn g n 1 = g 1 := by
  obtain ⟨n0, _⟩ := id o.1
  have e1 := zt_1
  intro n
  induction n with
  | zero => intro _; exact ⟨o, hC, h99, by show (g 0).toInt = _; omega, rfl⟩
  | succ n ih =>
    intro hn
    obtain ⟨a, b, c, d, e⟩ := ih (by omega)
    have ea := zTe (zTadd (zTs (sDn g n 0)) (zTl zt_1) (by omega) (by omega))
    refine ⟨sDe_ok a (by omega), ?_, ?_, ?_, ?_⟩
    · show gC (sDe (sDn g n))
      unfold gC
      rw [sDe_c (i := 3) (by omega), sDe_c (i := 2) (by omega), sDe_c (i := 4) (by omega), sDe_c (i := 5) (by omega)]
      exact b
    · show (sDe (sDn g n) 2).toInt ≤ 9999
      rw [sDe_c (i := 2) (by omega)]
      exact c
    · show (sDe (sDn g n) 0).toInt = _
      rw [sDe_0, ea]
      omega
    · show sDe (sDn g n) 1 = g 1
      rw [sDe_c (i := 1) (by omega)]
      exact e
theorem c_deal1 {σ : zg_S} {p : Nat} {g : Nat → Int32} (h : EQB σ p g) (hT : TXR σ p g) (hp : 53 ≤ p) (hn : (g 1).toInt ≤ 14) (hN : 0 ≤ (g 0).toInt ∧ (g 0).toInt < 9) {k : Int32 → zg_S → Option (Int32 × zg_S)} {P : Int32 → zg_S → Prop} (hk : ∀ r s, EQB s p (sDe g) → TXR s p (sDe g) → zk (k r s) P) : zk (zbd (f_X0_draw p σ) (fun r4 σ5 => zbd (f_X0_draw p σ5) (fun r13 σ14 => zbd (f_X0_draw p σ14) (fun r22 σ23 => zbd (f_X0_open p (r4 - r4 / 6 * 6) (r13 - r13 / 12 * 12) (r22 - r22 / 40 * 40) σ23) k)))) P := by
  refine zk_e (c_draw h) ?_
  have h1 : EQB (zg_up σ p 13 (sZ (g 6))) p (upd g 6 (sZ (g 6))) := h.up 6 (by decide) (by decide) rfl
  have T1 := (txr_up (k := 13) (v := sZ (g 6)) hT hn (by omega) hp)
  have d2 := c_draw h1
  rw [pk_us] at d2
  refine zk_e d2 ?_
  have h2 := h1.up (v := sZ (sZ (g 6))) 6 (by decide) (by decide) (f := 13) rfl
  rw [upd_upd] at h2
  have T2 := (txr_up (k := 13) (v := sZ (sZ (g 6))) T1 hn (by omega) hp)
  have d3 := c_draw h2
  rw [pk_us] at d3
  refine zk_e d3 ?_
  have h3 := h2.up (v := sZ (sZ (sZ (g 6)))) 6 (by decide) (by decide) (f := 13) rfl
  rw [upd_upd] at h3
  have T3 := (txr_up (k := 13) (v := sZ (sZ (sZ (g 6)))) T2 hn (by omega) hp).st (STx.rf.up (i := 6) (v := sZ (sZ (sZ (g 6)))) (by decide) (by decide))
  refine zk_call (c_open h3 T3 hp (by rw [pk_un (by decide)]; exact hn) (by rw [pk_un (by decide)]; exact hN) _ _ _) (fun r s hq => hk r s hq.2.1 hq.2.2)
theorem r_deal1 {τ : zg_S} {g : Nat → Int32} (h1 : τ 1 = g) (hN : 0 ≤ (g 0).toInt ∧ (g 0).toInt < 9) {k : Int32 → zg_S → Option (Int32 × zg_S)} {P : Int32 → zg_S → Prop} (hk : ∀ r s, s 1 = sDe g → zk (k r s) P) : zk (zbd (f_X7_drawn τ) (fun r7 σ8 => zbd (f_X7_drawn σ8) (fun r16 σ17 => zbd (f_X7_drawn σ17) (fun r25 σ26 => zbd (f_X7_comes (r7 - r7 / 6 * 6) (r16 - r16 / 12 * 12) (r25 - r25 / 40 * 40) σ26) k)))) P := by
  refine zk_e (r_drawn h1) ?_
  have d1 : zg_up τ 1 6 (sZ (g 6)) 1 = upd g 6 (sZ (g 6)) := up_row h1
  have x2 := r_drawn d1
  rw [pk_us] at x2
  refine zk_e x2 ?_
  have d2 : zg_up (zg_up τ 1 6 (sZ (g 6))) 1 6 (sZ (sZ (g 6))) 1 = upd g 6 (sZ (sZ (g 6))) := by rw [up_row d1, upd_upd]
  have x3 := r_drawn d2
  rw [pk_us] at x3
  refine zk_e x3 ?_
  have d3 : zg_up (zg_up (zg_up τ 1 6 (sZ (g 6))) 1 6 (sZ (sZ (g 6)))) 1 6 (sZ (sZ (sZ (g 6)))) 1 = upd g 6 (sZ (sZ (sZ (g 6)))) := by rw [up_row d2, upd_upd]
  exact zk_call (r_comes d3 (by rw [pk_un (by decide)]; exact hN) _ _ _) (fun r s hq => hk r s hq)
theorem v_deal {σ τ : zg_S} (h : RR σ τ) (a : Int32) : z2 (f_X6_deal a σ) (f_X7_deal a τ) SM := by
  have e0 := zt_0
  have e1 := zt_1
  have e9 := zt_m9
  have o := h.1.2.2.1
  obtain ⟨n0, _⟩ := id o.1
  have hw1 := w_X6_deal a σ
  have hw2 := w_X7_deal a τ
  suffices hz : z2 (f_X6_deal a σ) (f_X7_deal a τ) (fun r s r' t => r = r' ∧ ∃ m : Nat, (τ 1 0).toInt + m ≤ 9 ∧ EQB s 153 (sDn (τ 1) m) ∧ TXR s 153 (sDn (τ 1) m) ∧ t 1 = sDn (τ 1) m) by
    refine z2_mono (z2_w hz hw1 hw2) (fun r s r' t q => ?_)
    obtain ⟨⟨hr, m, hm, hE, hT, ht⟩, a1, b1⟩ := q
    obtain ⟨x1, x2, x3, x4, x5⟩ := sDn_ok o h.1.2.2.2.1 h.1.2.2.2.2 m hm
    refine ⟨hr, h.now (fun p k hp => a1 p k (fun z => ?_)) (fun p k hp => b1 p k (fun z => ?_)) (by rw [ht, x5]; exact Int.le_refl _) (by rw [ht]; exact ⟨hE, hT, x1, x2, x3⟩)⟩
    · unfold W_X6_deal at z
      unfold sideC at hp
      omega
    · unfold W_X7_deal at z
      unfold sideM at hp
      omega
  unfold f_X6_deal f_X7_deal
  refine z2_within (fun _ => z2_pL rfl (z2_pR rfl (z2_some ⟨rfl, 0, by omega, h.1.1, h.1.2.1, rfl⟩))) (fun a1 a2 => z2_nL one_ne (z2_nR one_ne ?_))
  rw [show σ 153 3 = τ 1 0 from h.f 0 (by decide)]
  have es := zTe (zTsub (zTl zt_m9) (zTs (τ 1 0)) (by omega) (by omega))
  refine z2_lL (fun y ey => ?_)
  have hy : y.toInt = min a.toInt (9 - (τ 1 0).toInt) := by
    rw [ey]
    by_cases c : 9 - τ 1 0 < a
    · rw [if_pos c]
      have := zlt c
      omega
    · rw [if_neg c]
      have := znlt c
      omega
  have C : zk (L_X6_deal_30 a zfu y 0 σ) (fun r s => r = y ∧ EQB s 153 (sDn (τ 1) y.toInt.toNat) ∧ TXR s 153 (sDn (τ 1) y.toInt.toNat)) := by
    unfold L_X6_deal_30
    refine zl_II (fun (x2 x3 : Int32) (s : zg_S) => x2 = y ∧ ∃ i : Nat, x3.toInt = i ∧ (i : Int) ≤ y.toInt ∧ EQB s 153 (sDn (τ 1) i) ∧ TXR s 153 (sDn (τ 1) i)) (fun (_ x3 : Int32) (_ : zg_S) => (9 - x3.toInt).toNat) ?_ zfu _ _ _ ⟨rfl, 0, e0, by omega, h.1.1, h.1.2.1⟩ (by unfold zfu; omega)
    intro rec x2 x3 s hI ih
    obtain ⟨rfl, i, hi, hi2, hE, hT⟩ := hI
    unfold B_X6_deal_30
    refine zk_ite (fun hle => ?_) (fun hlt => ?_)
    · have := zle hle
      exact zk_some ⟨rfl, by rw [show x2.toInt.toNat = i by omega]; exact ⟨hE, hT⟩⟩
    · have gl := znle hlt
      obtain ⟨x1, _, _, x4, x5⟩ := sDn_ok o h.1.2.2.2.1 h.1.2.2.2.2 i (by omega)
      have ex := zTe (zTadd (zTs x3) (zTl zt_1) (by omega) (by omega))
      refine c_deal1 hE hT (by decide) (by rw [x5]; exact o.2.2.1.2) (by omega) (fun r t hE' hT' => ?_)
      exact ih x2 (x3 + 1) t ⟨rfl, i + 1, by rw [ex, hi]; rfl, by omega, hE', hT'⟩ (by show (9 - (x3 + 1).toInt).toNat < (9 - x3.toInt).toNat; rw [ex]; omega)
  have D : zk (L_X7_deal_17 a zfu 0 τ) (fun r t => r = y ∧ t 1 = sDn (τ 1) y.toInt.toNat) := by
    unfold L_X7_deal_17
    refine zl_I (fun (x2 : Int32) (s : zg_S) => ∃ i : Nat, x2.toInt = i ∧ (i : Int) ≤ y.toInt ∧ s 1 = sDn (τ 1) i) (fun (x2 : Int32) (_ : zg_S) => (9 - x2.toInt).toNat) ?_ zfu _ _ ⟨0, e0, by omega, rfl⟩ (by unfold zfu; omega)
    intro rec x2 s hI ih
    obtain ⟨i, hi, hi2, hs⟩ := hI
    obtain ⟨x1, _, _, x4, x5⟩ := sDn_ok o h.1.2.2.2.1 h.1.2.2.2.2 i (by omega)
    have fin : (i : Int) = y.toInt → zk (some (x2, s)) (fun r t => r = y ∧ t 1 = sDn (τ 1) y.toInt.toNat) := fun he => zk_some ⟨Int32.toInt_inj.mp (by omega), by rw [show y.toInt.toNat = i by omega]; exact hs⟩
    unfold B_X7_deal_17
    rw [show s 1 0 = sDn (τ 1) i 0 from congrFun hs 0]
    refine zk_ite (fun hle => ?_) (fun hlt => ?_)
    · have := zle hle
      exact fin (by omega)
    · have gl := znle hlt
      refine zk_ite (fun hle => ?_) (fun hlt2 => ?_)
      · have := zle hle
        exact fin (by omega)
      · have gl2 := znle hlt2
        have ex := zTe (zTadd (zTs x2) (zTl zt_1) (by omega) (by omega))
        refine r_deal1 hs (by omega) (fun r t ht => ?_)
        exact ih (x2 + 1) t ⟨i + 1, by rw [ex, hi]; rfl, by omega, ht⟩ (by show (9 - (x2 + 1).toInt).toNat < (9 - x2.toInt).toNat; rw [ex]; omega)
  refine z2_kk C D (fun r s r' t q q' => ⟨q.1.trans q'.1.symm, y.toInt.toNat, by omega, q.2.1, q.2.2, q'.2⟩)
/-! hours -/
theorem sGn_ok {g : Nat → Int32} (o : gOK g) (hC : gC g) : ∀ n : Nat, (g 2).toInt + n ≤ 20000 → gOK (sGn g n) ∧ gC (sGn g n) ∧ (sGn g n 2).toInt = (g 2).toInt + n ∧ STx g (sGn g n) ∧ sGn g n 0 = g 0 ∧ (g 4).toInt ≤ (sGn g n 4).toInt := by
  obtain ⟨n0, n2, _⟩ := id o.1
  have e1 := zt_1
  intro n
  induction n with
  | zero => intro _; exact ⟨o, hC, by show (g 2).toInt = _; omega, STx.rf, rfl, Int.le_refl _⟩
  | succ n ih =>
    intro hn
    obtain ⟨a, b, c, d, e, f⟩ := ih (by omega)
    have m0 := a.1.1
    have ea := zTe (zTadd (zTs (sGn g n 2)) (zTl zt_1) (by omega) (by omega))
    have hto := sTo_b a.1 (sHl (sGn g n))
    have hc := sHr_C a b (by omega) hto
    refine ⟨sHr_ok a (by omega) hto, hc.1, ?_, d.tr (sHr_st m0), (sHr_c m0 (by decide)).trans e, Int.le_trans f hc.2⟩
    show (sHr (sGn g n) _ 2).toInt = _
    rw [sHr_2 m0, ea]
    omega
/-- haul and pass an hour -/
theorem c_go {σ : zg_S} {p : Nat} {g : Nat → Int32} (h : EQB σ p g) (hT : TXR σ p g) (o : gOK g) (hp : 53 ≤ p) {k : Int32 → zg_S → Option (Int32 × zg_S)} {P : Int32 → zg_S → Prop} (hk : ∀ r s, EQB s p (sGo g) → TXR s p (sGo g) → wr (W_X0_passHour p) σ s → zk (k r s) P) : zk (zbd (f_X0_hauling p σ) (fun r s => zbd (f_X0_passHour p r s) k)) P := by
  refine zk_call (c_hauling h hT o hp) (fun r s hq => ?_)
  obtain ⟨hr, hw⟩ := hq
  subst hr
  have hs := eqb_ws h hp o.1.1.2 hw
  have Ts := txr_ws hT hp o.2.2.1.2 hw
  refine zk_call (zk_w (c_hour hs Ts o hp (sHl g)) (w_X0_passHour p (sHl g) s)) (fun r t hq => ?_)
  refine hk r t hq.1.1 hq.1.2 (wr.tr (wr.tr wr.rf hw (fun a b z => ?_)) hq.2 (fun _ _ z => z))
  unfold WS at z
  unfold W_X0_passHour
  omega
theorem v_hours {σ τ : zg_S} (h : RR σ τ) (a : Int32) : z2 (f_X6_hours a σ) (f_X7_hours a τ) SM := by
  have e0 := zt_0
  have e1 := zt_1
  have e100 := zt_100
  have e99 := zt_9999
  have o := h.1.2.2.1
  obtain ⟨n0, n2, _⟩ := id o.1
  have h99 := h.1.2.2.2.2
  have hw1 := w_X6_hours a σ
  have hw2 := w_X7_hours a τ
  suffices hz : z2 (f_X6_hours a σ) (f_X7_hours a τ) (fun r s r' t => r = r' ∧ ∃ m : Nat, (τ 1 2).toInt + m ≤ 9999 ∧ EQB s 153 (sGn (τ 1) m) ∧ TXR s 153 (sGn (τ 1) m) ∧ t 1 = sGn (τ 1) m) by
    refine z2_mono (z2_w hz hw1 hw2) (fun r s r' t q => ?_)
    obtain ⟨⟨hr, m, hm, hE, hT, ht⟩, a1, b1⟩ := q
    obtain ⟨x1, x2, x3, x4, x5, x6⟩ := sGn_ok o h.1.2.2.2.1 m (by omega)
    refine ⟨hr, h.now (fun p k hp => a1 p k (fun z => ?_)) (fun p k hp => b1 p k (fun z => ?_)) (by rw [ht, x4.1]; exact Int.le_refl _) (by rw [ht]; exact ⟨hE, hT, x1, x2, by omega⟩)⟩
    · unfold W_X6_hours at z
      unfold sideC at hp
      omega
    · unfold W_X7_hours at z
      unfold sideM at hp
      omega
  unfold f_X6_hours f_X7_hours
  refine z2_within (fun _ => z2_pL rfl (z2_pR rfl (z2_some ⟨rfl, 0, by omega, h.1.1, h.1.2.1, rfl⟩))) (fun a1 a2 => z2_nL one_ne (z2_nR one_ne ?_))
  rw [show σ 153 7 = τ 1 2 from h.f 2 (by decide), show σ 153 11 = τ 1 4 from h.f 4 (by decide)]
  have es := zTe (zTsub (zTl zt_9999) (zTs (τ 1 2)) (by omega) (by omega))
  refine z2_lL (fun y ey => ?_)
  have hy : y.toInt = min a.toInt (9999 - (τ 1 2).toInt) := by
    rw [ey]
    by_cases c : 9999 - τ 1 2 < a
    · rw [if_pos c]
      have := zlt c
      omega
    · rw [if_neg c]
      have := znlt c
      omega
  have C : zk (L_X6_hours_40 a zfu (τ 1 4) y 0 σ) (fun r s => r = sGn (τ 1) y.toInt.toNat 4 - τ 1 4 ∧ EQB s 153 (sGn (τ 1) y.toInt.toNat) ∧ TXR s 153 (sGn (τ 1) y.toInt.toNat)) := by
    unfold L_X6_hours_40
    refine zl_III (fun (x2 x3 x4 : Int32) (s : zg_S) => x2 = τ 1 4 ∧ x3 = y ∧ ∃ i : Nat, x4.toInt = i ∧ (i : Int) ≤ y.toInt ∧ EQB s 153 (sGn (τ 1) i) ∧ TXR s 153 (sGn (τ 1) i)) (fun (_ _ x4 : Int32) (_ : zg_S) => (100 - x4.toInt).toNat) ?_ zfu _ _ _ _ ⟨rfl, rfl, 0, e0, by omega, h.1.1, h.1.2.1⟩ (by unfold zfu; omega)
    intro rec x2 x3 x4 s hI ih
    obtain ⟨hx2, rfl, i, hi, hi2, hE, hT⟩ := hI
    unfold B_X6_hours_40
    refine zk_ite (fun hle => ?_) (fun hlt => ?_)
    · have := zle hle
      have ei : x3.toInt.toNat = i := by omega
      refine zk_some ⟨by rw [ei, hx2, show s 153 11 = sGn (τ 1) i 4 from hE.f 4 (by decide)], by rw [ei]; exact ⟨hE, hT⟩⟩
    · have gl := znle hlt
      obtain ⟨x1, _⟩ := sGn_ok o h.1.2.2.2.1 i (by omega)
      have ex := zTe (zTadd (zTs x4) (zTl zt_1) (by omega) (by omega))
      refine c_go hE hT x1 (by decide) (fun r t hE' hT' _ => ?_)
      exact ih x2 x3 (x4 + 1) t ⟨hx2, rfl, i + 1, by rw [ex, hi]; rfl, by omega, hE', hT'⟩ (by show (100 - (x4 + 1).toInt).toNat < (100 - x4.toInt).toNat; rw [ex]; omega)
  have D : zk (L_X7_hours_24 a zfu (τ 1 4) 0 τ) (fun r t => r = sGn (τ 1) y.toInt.toNat 4 - τ 1 4 ∧ t 1 = sGn (τ 1) y.toInt.toNat) := by
    unfold L_X7_hours_24
    refine zl_II (fun (x2 x3 : Int32) (s : zg_S) => x2 = τ 1 4 ∧ ∃ i : Nat, x3.toInt = i ∧ (i : Int) ≤ y.toInt ∧ s 1 = sGn (τ 1) i) (fun (_ x3 : Int32) (_ : zg_S) => (100 - x3.toInt).toNat) ?_ zfu _ _ _ ⟨rfl, 0, e0, by omega, rfl⟩ (by unfold zfu; omega)
    intro rec x2 x3 s hI ih
    obtain ⟨hx2, i, hi, hi2, hs⟩ := hI
    obtain ⟨x1, _, x3', x4, _⟩ := sGn_ok o h.1.2.2.2.1 i (by omega)
    have fin : (i : Int) = y.toInt → zk (B_X7_hours_51 a x2 s) (fun r t => r = sGn (τ 1) y.toInt.toNat 4 - τ 1 4 ∧ t 1 = sGn (τ 1) y.toInt.toNat) := fun he => by
      have ei : y.toInt.toNat = i := by omega
      unfold B_X7_hours_51
      exact zk_some ⟨by rw [ei, hx2, show s 1 4 = sGn (τ 1) i 4 from congrFun hs 4], by rw [ei]; exact hs⟩
    unfold B_X7_hours_24
    rw [show s 1 2 = sGn (τ 1) i 2 from congrFun hs 2]
    refine zk_ite (fun hle => ?_) (fun hlt => ?_)
    · have := zle hle
      exact fin (by omega)
    · have gl := znle hlt
      refine zk_ite (fun hle => ?_) (fun hlt2 => ?_)
      · have := zle hle
        exact fin (by omega)
      · have gl2 := znle hlt2
        have ex := zTe (zTadd (zTs x3) (zTl zt_1) (by omega) (by omega))
        refine zk_call (r_go hs x1 (h.1.2.1.tv.st x4)) (fun r t hq => ?_)
        exact ih x2 (x3 + 1) t ⟨hx2, i + 1, by rw [ex, hi]; rfl, by omega, hq.1⟩ (by show (100 - (x3 + 1).toInt).toNat < (100 - x3.toInt).toNat; rw [ex]; omega)
  refine z2_kk C D (fun r s r' t q q' => ⟨q.1.trans q'.1.symm, y.toInt.toNat, by omega, q.2.1, q.2.2, q'.2⟩)
