/-! a bazaar takes another one over -/
theorem c_stallOver (a b : Nat) (hab : a ≠ b) (σ : zg_S) : zk (f_X4_takeOver a b σ) (fun _ s => (∀ j, j < 4 → s a j = σ b j) ∧ (∀ j, 4 ≤ j → s a j = σ a j) ∧ ∀ r, r ≠ a → s r = σ r) := by
  unfold f_X4_takeOver
  refine zk_let (fun s1 q1 => ?_)
  have b1 : s1 b = σ b := by rw [q1]; exact zg_row_ne (Ne.symm hab)
  rw [b1]
  refine zk_let (fun s2 q2 => ?_)
  have b2 : s2 b = σ b := by rw [q2]; exact (zg_row_ne (Ne.symm hab)).trans b1
  rw [b2]
  refine zk_let (fun s3 q3 => ?_)
  have b3 : s3 b = σ b := by rw [q3]; exact (zg_row_ne (Ne.symm hab)).trans b2
  rw [b3]
  refine zk_let (fun s4 q4 => zk_some ⟨fun j hj => ?_, fun j hj => ?_, fun r hr => ?_⟩)
  · match j, hj with
    | 0, _ => rw [q4]; refine (zkeepf rfl).trans ?_; rw [q3]; refine (zkeepf rfl).trans ?_; rw [q2]; refine (zkeepf rfl).trans ?_; rw [q1]; exact zgot
    | 1, _ => rw [q4]; refine (zkeepf rfl).trans ?_; rw [q3]; refine (zkeepf rfl).trans ?_; rw [q2]; exact zgot
    | 2, _ => rw [q4]; refine (zkeepf rfl).trans ?_; rw [q3]; exact zgot
    | 3, _ => rw [q4]; exact zgot
  · rw [q4]; refine (zkeepn (by omega)).trans ?_; rw [q3]; refine (zkeepn (by omega)).trans ?_; rw [q2]; refine (zkeepn (by omega)).trans ?_; rw [q1]; exact zkeepn (by omega)
  · rw [q4]; refine (zg_row_ne hr).trans ?_; rw [q3]; refine (zg_row_ne hr).trans ?_; rw [q2]; refine (zg_row_ne hr).trans ?_; rw [q1]; exact zg_row_ne hr
theorem c_takeOver {σ : zg_S} {p q : Nat} {g : Nat → Int32} (h : EQB σ q g) (hT : TXR σ q g) (hN : 0 ≤ (g 0).toInt ∧ (g 0).toInt ≤ 9) (hn : (g 1).toInt ≤ 14) (hp : 53 ≤ p) (hq : 53 ≤ q) (hpq : p + 12 ≤ q ∨ q + 12 ≤ p) : zk (f_X0_takeOver p q σ) (fun _ s => EQB s p g ∧ TXR s p g) := by
  have e0 := zt_0
  have e1 := zt_1
  have e3 := zt_3
  have nn := ztn hN.1
  unfold f_X0_takeOver
  rw [show σ q 3 = g 0 from h.f 0 (by decide)]
  refine zk_let (fun s0 q0 => ?_)
  have o0 : ∀ r k, ¬ (p ≤ r ∧ r ≤ p + 11) → s0 r k = σ r k := fun r k hr => by rw [q0]; exact congrFun (zg_row_ne (by omega)) k
  have n0 : s0 p 3 = g 0 := by rw [q0]; exact zgot
  unfold L_X0_takeOver_10
  refine zl_I (fun (x2 : Int32) (s : zg_S) => ∃ i : Nat, x2.toInt = i ∧ (i : Int) ≤ (g 0).toInt ∧ (∀ r k, ¬ (p ≤ r ∧ r ≤ p + 11) → s r k = σ r k) ∧ s p 3 = g 0 ∧ ∀ k j : Nat, k < i → j < 4 → s (p + 1 + 2 + k) j = g (11 + 4 * k + j)) (fun (x2 : Int32) (_ : zg_S) => (9 - x2.toInt).toNat) ?_ zfu _ _ ⟨0, e0, by omega, o0, n0, fun k j hk _ => by omega⟩ (by unfold zfu; omega)
  intro rec x2 s hI ih
  obtain ⟨i, hi, hi2, ho, hs3, hst⟩ := hI
  unfold B_X0_takeOver_10
  rw [hs3]
  refine zk_ite (fun hle => ?_) (fun hlt => ?_)
  · have gl := zle hle
    have ei : (i : Int) = (g 0).toInt := by omega
    refine zk_let (fun t0 u0 => ?_)
    rw [show s q 4 = g 1 from (ho q 4 (by omega)).trans (h.f 1 (by decide))] at u0
    have w0 : ∀ r, r ≠ p → t0 r = s r := fun r hr => by rw [u0]; exact zg_row_ne hr
    have w3 : t0 p 3 = g 0 := by rw [u0]; exact (zkeepf rfl).trans hs3
    have w4 : t0 p 4 = g 1 := by rw [u0]; exact zgot
    unfold L_X0_takeOver_49
    refine zl_I (fun (y : Int32) (t : zg_S) => ∃ m : Nat, y.toInt = m ∧ m ≤ 3 ∧ (∀ r, r ≠ p + 2 → t r = t0 r) ∧ ∀ k, k < m → t (p + 2) k = σ (q + 2) k) (fun (y : Int32) (_ : zg_S) => (3 - y.toInt).toNat) ?_ zfu _ _ ⟨0, e0, by omega, fun _ _ => rfl, fun k hk => by omega⟩ (by unfold zfu; omega)
    intro rec2 y t hI ih2
    obtain ⟨m, hm, hm3, hr, hc⟩ := hI
    have tq : ∀ r k, q ≤ r → r ≤ q + 11 → t r k = σ r k := fun r k h1 h2 => (congrFun (hr r (by omega)) k).trans ((congrFun (w0 r (by omega)) k).trans (ho r k (by omega)))
    unfold B_X0_takeOver_49
    refine zk_ite (fun hle => ?_) (fun hlt => ?_)
    · have g3 := zle hle
      have em : m = 3 := by omega
      refine zk_let (fun a1 p1 => ?_)
      have r1 : a1 q = t q := by rw [p1]; exact zg_row_ne (by omega)
      rw [r1]
      refine zk_let (fun a2 p2 => ?_)
      have r2 : a2 q = t q := by rw [p2]; exact (zg_row_ne (by omega)).trans r1
      rw [r2]
      refine zk_let (fun a3 p3 => ?_)
      have r3 : a3 q = t q := by rw [p3]; exact (zg_row_ne (by omega)).trans r2
      rw [r3]
      refine zk_let (fun a4 p4 => ?_)
      have r4 : a4 q = t q := by rw [p4]; exact (zg_row_ne (by omega)).trans r3
      rw [r4]
      refine zk_let (fun a5 p5 => ?_)
      have r5 : a5 q = t q := by rw [p5]; exact (zg_row_ne (by omega)).trans r4
      rw [r5]
      refine zk_let (fun a6 p6 => ?_)
      have r6 : a6 q = t q := by rw [p6]; exact (zg_row_ne (by omega)).trans r5
      rw [r6]
      refine zk_let (fun a7 p7 => ?_)
      have r7 : a7 q = t q := by rw [p7]; exact (zg_row_ne (by omega)).trans r6
      rw [r7]
      refine zk_let (fun a8 p8 => ?_)
      have r8 : a8 q = t q := by rw [p8]; exact (zg_row_ne (by omega)).trans r7
      rw [r8]
      refine zk_let (fun a9 p9 => ?_)
      have rowp : a9 p = upd (upd (upd (upd (upd (upd (upd (upd (upd (t p) 5 (t q 5)) 6 (t q 6)) 7 (t q 7)) 8 (t q 8)) 9 (t q 9)) 10 (t q 10)) 11 (t q 11)) 12 (t q 12)) 13 (t q 13) := by
        rw [p9]; refine zg_row_eq.trans ?_
        rw [p8, show zg_up a7 p 12 (t q 12) p = upd (a7 p) 12 (t q 12) from zg_row_eq, p7, show zg_up a6 p 11 (t q 11) p = upd (a6 p) 11 (t q 11) from zg_row_eq, p6, show zg_up a5 p 10 (t q 10) p = upd (a5 p) 10 (t q 10) from zg_row_eq, p5, show zg_up a4 p 9 (t q 9) p = upd (a4 p) 9 (t q 9) from zg_row_eq, p4, show zg_up a3 p 8 (t q 8) p = upd (a3 p) 8 (t q 8) from zg_row_eq, p3, show zg_up a2 p 7 (t q 7) p = upd (a2 p) 7 (t q 7) from zg_row_eq, p2, show zg_up a1 p 6 (t q 6) p = upd (a1 p) 6 (t q 6) from zg_row_eq, p1, show zg_up t p 5 (t q 5) p = upd (t p) 5 (t q 5) from zg_row_eq]
      have oth : ∀ r, r ≠ p → a9 r = t r := fun r hr => by
        rw [p9]; refine (zg_row_ne hr).trans ?_; rw [p8]; refine (zg_row_ne hr).trans ?_; rw [p7]; refine (zg_row_ne hr).trans ?_; rw [p6]; refine (zg_row_ne hr).trans ?_; rw [p5]; refine (zg_row_ne hr).trans ?_; rw [p4]; refine (zg_row_ne hr).trans ?_; rw [p3]; refine (zg_row_ne hr).trans ?_; rw [p2]; refine (zg_row_ne hr).trans ?_; rw [p1]; exact zg_row_ne hr
      have qf : ∀ i, i < 11 → t q (fm i) = g i := fun i hi => (tq q _ (Nat.le_refl _) (by omega)).trans (h.1 i hi)
      have tp : t p = t0 p := hr p (by omega)
      refine zk_some ⟨⟨fun j hj => ?_, fun k j hk hj => ?_⟩, ⟨?_, ?_, ?_⟩, fun t' ht' => ?_⟩
      · rw [rowp]
        match j, hj with
        | 0, _ => exact ((pk_un (by decide)).trans ((pk_un (by decide)).trans ((pk_un (by decide)).trans ((pk_un (by decide)).trans ((pk_un (by decide)).trans ((pk_un (by decide)).trans ((pk_un (by decide)).trans ((pk_un (by decide)).trans (pk_un (by decide)))))))))).trans ((congrFun tp 3).trans w3)
        | 1, _ => exact ((pk_un (by decide)).trans ((pk_un (by decide)).trans ((pk_un (by decide)).trans ((pk_un (by decide)).trans ((pk_un (by decide)).trans ((pk_un (by decide)).trans ((pk_un (by decide)).trans ((pk_un (by decide)).trans (pk_un (by decide)))))))))).trans ((congrFun tp 4).trans w4)
        | 2, _ => exact ((pk_un (by decide)).trans ((pk_un (by decide)).trans ((pk_un (by decide)).trans ((pk_un (by decide)).trans ((pk_un (by decide)).trans ((pk_un (by decide)).trans pk_us)))))).trans (qf 2 (by decide))
        | 3, _ => exact ((pk_un (by decide)).trans ((pk_un (by decide)).trans ((pk_un (by decide)).trans pk_us))).trans (qf 3 (by decide))
        | 4, _ => exact ((pk_un (by decide)).trans ((pk_un (by decide)).trans pk_us)).trans (qf 4 (by decide))
        | 5, _ => exact ((pk_un (by decide)).trans pk_us).trans (qf 5 (by decide))
        | 6, _ => exact pk_us.trans (qf 6 (by decide))
        | 7, _ => exact ((pk_un (by decide)).trans ((pk_un (by decide)).trans ((pk_un (by decide)).trans ((pk_un (by decide)).trans ((pk_un (by decide)).trans ((pk_un (by decide)).trans ((pk_un (by decide)).trans pk_us))))))).trans (qf 7 (by decide))
        | 8, _ => exact ((pk_un (by decide)).trans ((pk_un (by decide)).trans ((pk_un (by decide)).trans ((pk_un (by decide)).trans ((pk_un (by decide)).trans ((pk_un (by decide)).trans ((pk_un (by decide)).trans ((pk_un (by decide)).trans pk_us)))))))).trans (qf 8 (by decide))
        | 9, _ => exact ((pk_un (by decide)).trans ((pk_un (by decide)).trans ((pk_un (by decide)).trans ((pk_un (by decide)).trans ((pk_un (by decide)).trans pk_us))))).trans (qf 9 (by decide))
        | 10, _ => exact ((pk_un (by decide)).trans ((pk_un (by decide)).trans ((pk_un (by decide)).trans ((pk_un (by decide)).trans pk_us)))).trans (qf 10 (by decide))
      · rw [oth _ (by omega), hr _ (by omega), w0 _ (by omega)]
        exact hst k j (by omega) hj
      · rw [oth _ (by omega), hc 0 (by omega)]
        exact hT.1.1
      · rw [oth _ (by omega), hc 1 (by omega)]
        exact hT.1.2.1
      · rw [oth _ (by omega), hc 2 (by omega)]
        exact hT.1.2.2
      · refine (hT.2 t' ht').wr (fun k => ?_) (fun k => ?_)
        · rw [oth _ (by omega), hr _ (by omega), w0 _ (by omega)]
          exact ho _ k (by omega)
        · rw [oth _ (by omega), hr _ (by omega), w0 _ (by omega)]
          exact ho _ k (by omega)
    · have g3 := znle hlt
      have ny := ztn (i := y) (by omega)
      refine zk_in (zin_mk (by omega) (by omega)) (zk_let (fun v ev => zk_let (fun t2 p2 => ?_)))
      rw [show y.toNatClampNeg = m by omega] at ev p2
      have ex := zTe (zTadd (zTs y) (zTl zt_1) (by omega) (by omega))
      refine ih2 (y + 1) t2 ⟨m + 1, by rw [ex, hm]; rfl, by omega, fun r hr' => by rw [p2]; exact (zg_row_ne hr').trans (hr r hr'), fun k hk => ?_⟩ (by show (3 - (y + 1).toInt).toNat < (3 - y.toInt).toNat; rw [ex]; omega)
      rw [p2]
      by_cases e : k = m
      · subst e
        exact zgot.trans (ev.trans (tq _ _ (by omega) (by omega)))
      · exact (zkeepn e).trans (hc k (by omega))
  · have gl := znle hlt
    have ni := ztn (i := x2) (by omega)
    refine zk_in (zin_mk (by omega) (by omega)) ?_
    rw [show x2.toNatClampNeg = i by omega]
    have ex := zTe (zTadd (zTs x2) (zTl zt_1) (by omega) (by omega))
    refine zk_call (c_stallOver (p + 1 + 2 + i) (q + 1 + 2 + i) (by omega) s) (fun r t hq' => ?_)
    obtain ⟨h1, _, h2⟩ := hq'
    refine ih (x2 + 1) t ⟨i + 1, by rw [ex, hi]; rfl, by omega, fun r k hr => by rw [h2 r (by omega)]; exact ho r k hr, by rw [h2 p (by omega)]; exact hs3, fun k j hk hj => ?_⟩ (by show (9 - (x2 + 1).toInt).toNat < (9 - x2.toInt).toNat; rw [ex]; omega)
    by_cases e : k = i
    · subst e
      rw [h1 j hj, ho _ _ (by omega)]
      exact h.2 k j (by omega) hj
    · rw [h2 _ (by omega)]
      exact hst k j (by omega) hj
/-! images: rows that agree below 2847 -/
def AG (g h : Nat → Int32) : Prop := ∀ k, k < 2847 → h k = g k
theorem sCn_ag {g h : Nat → Int32} (a : AG g h) (key : Int32) : ∀ n, n ≤ 14 → sCn h key n = sCn g key n := by
  intro n
  induction n with
  | zero => intro _; rfl
  | succ n ih =>
    intro hn
    show (if h (47 + 200 * n) = key then Int32.ofNat n else sCn h key n) = if g (47 + 200 * n) = key then Int32.ofNat n else sCn g key n
    rw [a _ (by omega), ih (by omega)]
theorem bz_ag {σ : zg_S} {p : Nat} {g h : Nat → Int32} (a : AG g h) (b : BZ σ p g) : BZ σ p h := by
  obtain ⟨hE, hT, o, hC, h99⟩ := b
  obtain ⟨oB, oS, on, oW, o96⟩ := id o
  have nn := ztn on.1
  have c0 := a 0 (by decide)
  have c1 := a 1 (by decide)
  have hct : ∀ key, cC h key = cC g key := fun key => by
    unfold cC sCt
    rw [c1, sCn_ag a key _ (by omega)]
  refine ⟨⟨fun i hi => (hE.1 i hi).trans (a i (by omega)).symm, fun k j hk hj => ?_⟩, ⟨⟨hT.1.1.trans (hct 0).symm, hT.1.2.1.trans (hct 1).symm, hT.1.2.2.trans (hct 2).symm⟩, fun t ht => ?_⟩, ⟨gB_eq oB (fun i hi _ _ _ _ => a i (by omega)), fun k hk => ?_, by rw [c1]; exact on, WF_eq2 on.2 a oW, fun t ht => ?_⟩, ?_, by rw [a 2 (by decide)]; exact h99⟩
  · rw [c0] at hk
    have := oB.1.2
    rw [a _ (by omega)]
    exact hE.2 k j hk hj
  · rw [c1] at ht
    obtain ⟨x0, x1, x2, x3, x4⟩ := hT.2 t ht
    have e96 := o96 t ht
    refine ⟨x0.trans (a _ (by omega)).symm, x1.trans (a _ (by omega)).symm, x2.trans (a _ (by omega)).symm, by rw [a _ (by omega)]; exact x3, fun i hi => ?_⟩
    rw [a _ (by omega)] at hi
    rw [a (47 + 200 * t) (by omega), a (47 + 200 * t + 4 + 2 * i) (by omega), a (47 + 200 * t + 4 + 2 * i + 1) (by omega)]
    exact x4 i hi
  · rw [c0] at hk
    have := oB.1.2
    exact gSb_eq (fun j hj => a _ (by omega)) (oS k hk)
  · rw [c1] at ht
    rw [a _ (by omega)]
    exact o96 t ht
  · unfold gC
    rw [a 3 (by decide), a 2 (by decide), a 4 (by decide), a 5 (by decide)]
    exact hC
theorem v_keep {σ τ : zg_S} (h : RR σ τ) (hM : IMc τ) : z2 (f_X6_keep σ) (f_X7_keep τ) SM := by
  obtain ⟨h1, h2, h3, h4, h5, h6⟩ := id h
  have o := h1.2.2.1
  unfold f_X6_keep f_X7_keep
  refine z2_lR (fun t1 q1 => ?_)
  have m1 : IMc t1 := by rw [q1]; exact IMc.up hM (zTs 1) trivial
  have b1 : ∀ p k, ¬ (p = 0 ∧ k = 3) → t1 p k = τ p k := fun p k hp => by
    rw [q1]
    by_cases e : p = 0
    · subst e
      exact zkeepn (by omega)
    · exact congrFun (zg_row_ne e) k
  refine z2_cL (zk_w (c_takeOver (p := 177) h1.1 h1.2.1 o.1.1 o.2.2.1.2 (by decide) (by decide) (by decide)) (w_X0_takeOver 177 153 σ)) (fun r s hp => ?_)
  refine z2_cR (s_X7_setAside 1 2 t1 m1 (by decide) (by decide) (by decide) mc_1_2) (fun r' t hp' => ?_)
  obtain ⟨⟨hE, hT⟩, hw⟩ := hp
  obtain ⟨_, ha, _, hp2⟩ := hp'
  refine z2_lL (fun s2 q2 => ?_)
  have f2 : ∀ p k, ¬ ((p = 0 ∧ k = 12) ∨ (177 ≤ p ∧ p ≤ 188)) → s2 p k = σ p k := fun p k hp => by
    rw [q2]
    have hh : s p k = σ p k := hw p k (by unfold W_X0_takeOver; omega)
    by_cases e : p = 0
    · subst e
      exact (zkeepn (by omega)).trans hh
    · exact (congrFun (zg_row_ne e) k).trans hh
  have f3 : ∀ p k, ¬ ((p = 0 ∧ k = 3) ∨ p = 2) → t p k = τ p k := fun p k hp => by
    rw [hp2 p (by omega)]
    exact b1 p k (by omega)
  have e1 : t 1 = τ 1 := funext (fun k => f3 1 k (by omega))
  have k12 : s2 0 12 = 1 := by rw [q2]; exact zgot
  have k3 : t 0 3 = 1 := by rw [hp2 0 (by decide), q1]; exact zgot
  have ag : AG (τ 1) (t 2) := fun k hk => (ha k hk).trans (b1 1 k (by omega))
  have bz : BZ s2 177 (τ 1) := by
    have : BZ s 177 (τ 1) := ⟨hE, hT, h1.2.2⟩
    rw [q2]
    exact bz_wr this (by decide) (fun q k _ _ => congrFun (zg_row_ne (by omega)) k) (fun q k _ _ _ => congrFun (zg_row_ne (by omega)) k)
  refine z2_some ⟨by rw [e1, f2 153 3 (by omega)]; exact h.f 0 (by decide), ?_⟩
  refine ⟨by rw [e1]; exact bz_wr h1 (by decide) (fun q k _ _ => f2 q k (by omega)) (fun q k _ _ _ => f2 q k (by omega)), ⟨by rw [k12, k3], fun _ => ⟨bz_ag ag bz, by rw [ag 1 (by decide), e1]; exact Int.le_refl _⟩⟩, h3.k (f2 0 10 (by omega)) (f3 0 14 (by omega)) (fun k => f2 6 k (by omega)) (fun k => f3 13 k (by omega)), h4.k (f2 0 11 (by omega)) (f3 0 29 (by omega)) (fun k => f2 5 k (by omega)) (fun k => f3 17 k (by omega)), h5.k (fun q k _ _ => f2 q k (by omega)) (fun k => f3 4 k (by omega)) (fun k => f3 5 k (by omega)) (fun k => f3 6 k (by omega)), h6.k (fun q k _ _ => f2 q k (by omega)) (fun p k _ _ => f3 p k (by omega))⟩
theorem v_back {σ τ : zg_S} (h : RR σ τ) (hM : IMc τ) : z2 (f_X6_back σ) (f_X7_back τ) SM := by
  obtain ⟨h1, h2, h3, h4, h5, h6⟩ := id h
  unfold f_X6_back f_X7_back
  rw [h2.1]
  refine z2_iL (fun hz => z2_pR hz (z2_some (SM.rf h))) (fun hz => z2_nR hz ?_)
  obtain ⟨i1, i2⟩ := h2.2 hz
  have o := i1.2.2.1
  refine z2_cL (zk_w (c_takeOver (p := 153) i1.1 i1.2.1 o.1.1 o.2.2.1.2 (by decide) (by decide) (by decide)) (w_X0_takeOver 153 177 σ)) (fun r s hp => ?_)
  refine z2_cR (s_X7_setAside 2 1 τ hM (by decide) (by decide) (by decide) mc_2_1) (fun r' t hp' => ?_)
  obtain ⟨⟨hE, hT⟩, hw⟩ := hp
  obtain ⟨_, ha, _, hp2⟩ := hp'
  have f2 : ∀ p k, ¬ (153 ≤ p ∧ p ≤ 164) → s p k = σ p k := fun p k hp => hw p k (by unfold W_X0_takeOver; omega)
  have ag : AG (τ 2) (t 1) := ha
  have bz : BZ s 153 (t 1) := bz_ag ag ⟨hE, hT, i1.2.2⟩
  have c1 := ag 1 (by decide)
  refine z2_some ⟨?_, bz, ?_, h3.k (f2 0 10 (by omega)) (congrFun (hp2 0 (by decide)) 14) (fun k => f2 6 k (by omega)) (fun k => congrFun (hp2 13 (by decide)) k), h4.k (f2 0 11 (by omega)) (congrFun (hp2 0 (by decide)) 29) (fun k => f2 5 k (by omega)) (fun k => congrFun (hp2 17 (by decide)) k), h5.k (fun q k _ _ => f2 q k (by omega)) (fun k => congrFun (hp2 4 (by decide)) k) (fun k => congrFun (hp2 5 (by decide)) k) (fun k => congrFun (hp2 6 (by decide)) k), h6.k (fun q k _ _ => f2 q k (by omega)) (fun p k _ _ => congrFun (hp2 p (by omega)) k)⟩
  · exact bz.1.f 0 (by decide)
  · refine ⟨by rw [f2 0 12 (by omega), congrFun (hp2 0 (by decide)) 3]; exact h2.1, fun _ => ?_⟩
    rw [hp2 2 (by decide), c1]
    exact ⟨bz_wr i1 (by decide) (fun q k _ _ => f2 q k (by omega)) (fun q k _ _ _ => f2 q k (by omega)), Int.le_refl _⟩
