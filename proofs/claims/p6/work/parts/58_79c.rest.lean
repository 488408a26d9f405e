/-! without -/
def sU (g : Nat → Int32) (n i : Nat) : Int32 := sGn (upd g (11 + 4 * i + 3) 0) n 3
def sWo (g : Nat → Int32) (n : Nat) : Nat → Int32 × Int32
  | 0 => (0, -1)
  | i + 1 => if sU g n i ≤ (sWo g n i).2 then sWo g n i else (Int32.ofNat i, sU g n i)
theorem sWo_0 {g : Nat → Int32} {n : Nat} (h : 0 ≤ (sU g n 0).toInt) : sWo g n 1 = (0, sU g n 0) := by
  have em := zt_m1
  show (if sU g n 0 ≤ (-1 : Int32) then _ else _) = _
  rw [if_neg (fun z => by have := zle z; omega)]
  rfl
theorem v_without {σ τ : zg_S} (h : RR σ τ) (a b : Int32) : z2 (f_X6_without a b σ) (f_X7_without a b τ) SM := by
  have e0 := zt_0
  have e1 := zt_1
  have em := zt_m1
  have e60 := zt_60
  obtain ⟨hE, hT, o, hC, h99⟩ := id h.1
  have es : σ 153 3 = τ 1 0 := h.f 0 (by decide)
  have n0 := o.1.1
  have nn := ztn n0.1
  by_cases ca : (1 : Int32).toInt ≤ a.toInt ∧ a.toInt ≤ (60 : Int32).toInt
  · by_cases cb : (0 : Int32).toInt ≤ b.toInt ∧ b.toInt ≤ (1 : Int32).toInt
    · refine th h ?_ (w_X6_without a b σ) (fun p k z => WT z)
      have uok : ∀ i : Nat, i < 9 → gOK (upd (τ 1) (11 + 4 * i + 3) 0) := fun i hi => o.cl (j := 3) hi (by decide) (by omega) (by show (0 : Int32).toInt ≤ 99; omega)
      have uC : ∀ i : Nat, gC (upd (τ 1) (11 + 4 * i + 3) 0) := fun i => gC_un hC (by omega)
      have u2 : ∀ i : Nat, upd (τ 1) (11 + 4 * i + 3) 0 2 = τ 1 2 := fun i => pk_un (by omega)
      have uS : ∀ i : Nat, i < 9 → STx (τ 1) (upd (τ 1) (11 + 4 * i + 3) 0) := fun i hi => STx.rf.up (by omega) (by omega)
      have ub : ∀ i : Nat, i < 9 → 0 ≤ (sU (τ 1) a.toInt.toNat i).toInt := fun i hi => by
        obtain ⟨_, x2, _⟩ := sGn_ok (uok i hi) (uC i) a.toInt.toNat (by rw [u2]; omega)
        exact x2.1.1
      have C : ¬ τ 1 0 = 0 → zk (L_X6_without_43 a b zfu 0 (-1) 0 σ) (fun r _ => r = if b = 0 then (sWo (τ 1) a.toInt.toNat (τ 1 0).toNatClampNeg).1 else (sWo (τ 1) a.toInt.toNat (τ 1 0).toNatClampNeg).2) := fun _ => by
        unfold L_X6_without_43
        refine zl_III (fun (x3 x4 x5 : Int32) (s : zg_S) => wr W_X6_thinkOn σ s ∧ ∃ i : Nat, x5.toInt = i ∧ (i : Int) ≤ (τ 1 0).toInt ∧ (x3, x4) = sWo (τ 1) a.toInt.toNat i) (fun (_ _ x5 : Int32) (_ : zg_S) => (9 - x5.toInt).toNat) ?_ zfu _ _ _ _ ⟨wr.rf, 0, e0, by omega, rfl⟩ (by unfold zfu; omega)
        intro rec x3 x4 x5 s hI ih
        obtain ⟨hw, i, hi, hi2, hx⟩ := hI
        have hx3 : x3 = (sWo (τ 1) a.toInt.toNat i).1 := congrArg Prod.fst hx
        have hx4 : x4 = (sWo (τ 1) a.toInt.toNat i).2 := congrArg Prod.snd hx
        obtain ⟨sE, sT⟩ := now_w hE hT n0.2 o.2.2.1.2 hw
        unfold B_X6_without_43
        rw [show s 153 3 = τ 1 0 from sE.f 0 (by decide)]
        refine zk_ite (fun hle => ?_) (fun hlt => ?_)
        · have := zle hle
          rw [show (τ 1 0).toNatClampNeg = i by omega]
          exact zk_ite (fun hb => zk_some (by rw [if_pos hb]; exact hx3)) (fun hb => zk_some (by rw [if_neg hb]; exact hx4))
        · have gl := znle hlt
          have ni := ztn (i := x5) (by omega)
          have ex := zTe (zTadd (zTs x5) (zTl zt_1) (by omega) (by omega))
          refine zk_call (c_over hE hT o hw) (fun _ t q => ?_)
          refine zk_in (zin_mk (by omega) (by omega)) (zk_let (fun t2 q2 => ?_))
          rw [show x5.toNatClampNeg = i by omega] at q2
          have E2 : EQB t2 165 (upd (τ 1) (11 + 4 * i + 3) 0) := by rw [q2]; exact q.1.1.upS i 3 (by decide)
          have T2 : TXR t2 165 (upd (τ 1) (11 + 4 * i + 3) 0) := by rw [q2]; exact (txr_up q.1.2 o.2.2.1.2 (by omega) (by omega)).st (uS i (by omega))
          have w2 : wr W_X6_thinkOn σ t2 := by rw [q2]; exact q.2.up (by unfold W_X6_thinkOn; omega)
          refine zk_call (c_think E2 T2 (uok i (by omega)) (uC i) a (by omega) (by rw [u2]; omega)) (fun _ t3 q3 => ?_)
          rw [show t3 165 10 = sU (τ 1) a.toInt.toNat i from q3.1.1.f 3 (by decide)]
          have w3 := w2.tr q3.2 (fun _ _ z => z)
          have eW : sWo (τ 1) a.toInt.toNat (i + 1) = if sU (τ 1) a.toInt.toNat i ≤ (sWo (τ 1) a.toInt.toNat i).2 then sWo (τ 1) a.toInt.toNat i else (Int32.ofNat i, sU (τ 1) a.toInt.toNat i) := rfl
          have nx7 : ∀ y z : Int32, (y, z) = sWo (τ 1) a.toInt.toNat (i + 1) → zk (B_X6_without_109 a b rec y z x5 t3) (fun r _ => r = if b = 0 then (sWo (τ 1) a.toInt.toNat (τ 1 0).toNatClampNeg).1 else (sWo (τ 1) a.toInt.toNat (τ 1 0).toNatClampNeg).2) := fun y z hyz => by
            unfold B_X6_without_109
            exact ih y z (x5 + 1) t3 ⟨w3, i + 1, by rw [ex, hi]; rfl, by omega, hyz⟩ (by show (9 - (x5 + 1).toInt).toNat < (9 - x5.toInt).toNat; rw [ex]; omega)
          refine zk_ite (fun hc => nx7 _ _ ?_) (fun hc => nx7 _ _ ?_)
          · rw [hx4] at hc
            rw [eW, if_pos hc]
            exact hx
          · rw [hx4] at hc
            rw [eW, if_neg hc, ofNe hi]
      unfold f_X6_without f_X7_without
      refine z2_eL (c_within1 σ ca) (z2_nL one_ne (z2_eL (c_within1 σ cb) (z2_nL one_ne ?_)))
      refine z2_eR (r_isIn1 τ ca) (z2_nR one_ne (z2_eR (r_isIn1 τ cb) (z2_nR one_ne ?_)))
      refine z2_cR (r_by' τ) (fun _ t p => ?_)
      have D : zk (L_X7_without_37 a b zfu (-1) 0 0 t) (fun r u => (r = if τ 1 0 = 0 then -1000000005 else if b = 0 then (sWo (τ 1) a.toInt.toNat (τ 1 0).toNatClampNeg).1 else (sWo (τ 1) a.toInt.toNat (τ 1 0).toNatClampNeg).2) ∧ u 1 = τ 1 ∧ KB τ u) := by
        unfold L_X7_without_37
        refine zl_III (fun (x3 x4 x5 : Int32) (s : zg_S) => s 1 = τ 1 ∧ KB τ s ∧ ∃ i : Nat, x5.toInt = i ∧ (i : Int) ≤ (τ 1 0).toInt ∧ ((i = 0 ∧ x3 = -1) ∨ (1 ≤ i ∧ (x3, x4) = sWo (τ 1) a.toInt.toNat i ∧ 0 ≤ x3.toInt))) (fun (_ _ x5 : Int32) (_ : zg_S) => (9 - x5.toInt).toNat) ?_ zfu _ _ _ _ ⟨p.1, p.2, 0, e0, by omega, Or.inl ⟨rfl, rfl⟩⟩ (by unfold zfu; omega)
        intro rec x3 x4 x5 s hI ih
        obtain ⟨hs, kb, i, hi, hi2, hx⟩ := hI
        unfold B_X7_without_37
        rw [show s 1 0 = τ 1 0 from congrFun hs 0]
        refine zk_ite (fun hle => ?_) (fun hlt => ?_)
        · have := zle hle
          have ei : (τ 1 0).toNatClampNeg = i := by omega
          rcases hx with ⟨hx0, hx3⟩ | ⟨hx0, hxx, hx3⟩
          · refine zk_ite (fun z => absurd (zle z) (by rw [hx3, em]; omega)) (fun _ => zk_some ⟨?_, hs, kb⟩)
            rw [if_pos (Int32.toInt_inj.mp (by omega))]
          · have hn : ¬ τ 1 0 = 0 := fun z => by have := congrArg Int32.toInt z; omega
            refine zk_ite (fun _ => ?_) (fun z => absurd (Int32.le_iff_toInt_le.mpr (by omega)) z)
            rw [ei, if_neg hn]
            exact zk_ite (fun hb => zk_some ⟨by rw [if_pos hb]; exact congrArg Prod.fst hxx, hs, kb⟩) (fun hb => zk_some ⟨by rw [if_neg hb]; exact congrArg Prod.snd hxx, hs, kb⟩)
        · have gl := znle hlt
          have ex := zTe (zTadd (zTs x5) (zTl zt_1) (by omega) (by omega))
          refine zk_e (r_sets hs hi (by omega) zt_3 (by decide)) ?_
          have d1 : zg_up s 1 (11 + 4 * i + 3) 0 1 = upd (τ 1) (11 + 4 * i + 3) 0 := up_row hs
          have k1 : KB τ (zg_up s 1 (11 + 4 * i + 3) 0) := kb.w (W := fun p _ => p = 1) (fun p k hp => congrFun (zg_row_ne hp) k) (fun p k z => Or.inl z)
          generalize zg_up s 1 (11 + 4 * i + 3) 0 = t1 at d1 k1 ⊢
          refine zk_call (r_many d1 (uok i (by omega)) (uC i) (hT.tv.st (uS i (by omega))) a (by omega) (by rw [u2]; omega)) (fun _ t3 p3 => ?_)
          obtain ⟨_, _, _, st, _⟩ := sGn_ok (uok i (by omega)) (uC i) a.toInt.toNat (by rw [u2]; omega)
          have k3 := k1.w p3.2 (fun p k z => by unfold W_X7_goesOnMany at z; omega)
          refine zk_call (r_bk' k3 (fun k hk => by rw [p3.1]; exact (st.2 k hk).trans ((uS i (by omega)).2 k hk))) (fun _ t4 p4 => ?_)
          rw [show t3 1 3 = sU (τ 1) a.toInt.toNat i from congrFun p3.1 3]
          have eW : sWo (τ 1) a.toInt.toNat (i + 1) = if sU (τ 1) a.toInt.toNat i ≤ (sWo (τ 1) a.toInt.toNat i).2 then sWo (τ 1) a.toInt.toNat i else (Int32.ofNat i, sU (τ 1) a.toInt.toNat i) := rfl
          have nx7 : ∀ y z : Int32, (y, z) = sWo (τ 1) a.toInt.toNat (i + 1) → 0 ≤ y.toInt → zk (B_X7_without_91 a b rec y z x5 t4) (fun r u => (r = if τ 1 0 = 0 then -1000000005 else if b = 0 then (sWo (τ 1) a.toInt.toNat (τ 1 0).toNatClampNeg).1 else (sWo (τ 1) a.toInt.toNat (τ 1 0).toNatClampNeg).2) ∧ u 1 = τ 1 ∧ KB τ u) := fun y z hyz hy => by
            unfold B_X7_without_91
            exact ih y z (x5 + 1) t4 ⟨p4.1, p4.2, i + 1, by rw [ex, hi]; rfl, by omega, Or.inr ⟨by omega, hyz, hy⟩⟩ (by show (9 - (x5 + 1).toInt).toNat < (9 - x5.toInt).toNat; rw [ex]; omega)
          unfold B_X7_without_84
          rcases hx with ⟨hx0, hx3⟩ | ⟨hx0, hxx, hx3⟩
          · refine zk_ite (fun _ => nx7 _ _ ?_ (by omega)) (fun z => absurd (show x3 < 0 by rw [hx3]; decide) z)
            subst hx0
            rw [sWo_0 (ub 0 (by omega)), ofNe hi]
            rfl
          · refine zk_ite (fun z => absurd (zlt z) (by omega)) (fun _ => ?_)
            have hx4 : x4 = (sWo (τ 1) a.toInt.toNat i).2 := congrArg Prod.snd hxx
            refine zk_ite (fun hc => nx7 _ _ ?_ hx3) (fun hc => nx7 _ _ ?_ (by omega))
            · rw [hx4] at hc
              rw [eW, if_pos hc]
              exact hxx
            · rw [hx4] at hc
              rw [eW, if_neg hc, ofNe hi]
      rw [es]
      refine z2_iL (fun hz => ?_) (fun hz => ?_)
      · obtain ⟨r', u, eu, v1, v2⟩ := D
        rw [eu]
        rw [if_pos hz] at v1
        exact z2_some ⟨v1.symm, v2⟩
      · refine z2_kk (C hz) D (fun r s r' t q q' => ⟨?_, q'.2⟩)
        rw [q, q'.1, if_neg hz]
    · refine th0 (r := -1000000001) h ?_ ?_
      · unfold f_X6_without
        rw [c_within1 σ ca, zbd_s, if_neg one_ne, c_within0 σ cb]
        rfl
      · unfold f_X7_without
        rw [r_isIn1 τ ca, zbd_s, if_neg one_ne, r_isIn0 τ cb]
        rfl
  · refine th0 (r := -1000000001) h ?_ ?_
    · unfold f_X6_without
      rw [c_within0 σ ca]
      rfl
    · unfold f_X7_without
      rw [r_isIn0 τ ca]
      rfl
