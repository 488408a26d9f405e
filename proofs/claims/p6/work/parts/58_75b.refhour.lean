theorem sLo_b {g : Nat → Int32} {k : Nat} (o : gOK g) (hk : (k : Int) < (g 0).toInt) : 0 ≤ (sLo g k).toInt := by
  have h := sLs_b o.1 (o.2.1 k hk)
  have e0 := zt_0
  unfold sLo
  by_cases c : sShd g (g 7) (g (11 + 4 * k + 1)) = 0
  · rw [if_pos c]; omega
  · rw [if_neg c]; omega
theorem sBL_s {g : Nat → Int32} {k : Nat} : sBL g (k + 1) = if sLo g k ≤ (sBL g k).2 then sBL g k else (sDir g k, sLo g k) := rfl
section
variable {τ : zg_S} {g : Nat → Int32}
theorem r_hauls1 (h1 : τ 1 = g) (o : gOK g) (hV : tvs g) : zk (L_X7_hauls_67 zfu (-1) 0 τ) (fun r s => r = sBv (sBL g (g 0).toNatClampNeg).1 ∧ s 1 = g) := by
  obtain ⟨hN, _⟩ := id o.1
  have e0 := zt_0
  have e1 := zt_1
  have em := zt_m1
  have nn := ztn hN.1
  unfold L_X7_hauls_67
  refine zl_II (fun (x1 x2 : Int32) (s : zg_S) => s 1 = g ∧ ∃ i : Nat, x2.toInt = i ∧ (i : Int) ≤ (g 0).toInt ∧ ((x1 = -1 ∧ sBL g i = (0, 0)) ∨ (∃ w : Nat, (w : Int) < (g 0).toInt ∧ x1.toInt = w ∧ sShd g (g 7) (g (11 + 4 * w + 1)) = 0 ∧ sBL g i = (sDir g w, sLs g w) ∧ 0 < (sLs g w).toInt))) (fun (_ x2 : Int32) (_ : zg_S) => (9 - x2.toInt).toNat) ?_ zfu _ _ _ ⟨h1, 0, e0, by omega, Or.inl ⟨rfl, rfl⟩⟩ (by unfold zfu; omega)
  intro rec x1 x2 s hI ih
  obtain ⟨hs, i, hi, hi2, hx⟩ := hI
  unfold B_X7_hauls_67
  rw [show s 1 0 = g 0 from congrFun hs 0]
  refine zk_ite (fun hle => ?_) (fun hlt => ?_)
  · have gl := zle hle
    rw [show (g 0).toNatClampNeg = i by omega]
    rcases hx with ⟨hx, hB⟩ | ⟨w, hw, hx, _, hB, _⟩
    · refine zk_ite (fun z => absurd z (by rw [hx]; decide)) (fun _ => ?_)
      exact zk_some ⟨by rw [hB]; rfl, hs⟩
    · refine zk_ite (fun _ => ?_) (fun z => absurd (Int32.le_iff_toInt_le.mpr (by omega)) z)
      refine zk_e (r_of hs hx (by omega) zt_1 (by decide)) ?_
      refine zk_e (r_shadeFrom hs) ?_
      rw [hB]
      refine zk_ite (fun hd => ?_) (fun hd => ?_)
      · refine zk_some ⟨?_, hs⟩
        show 1 = sBv (sDir g w)
        unfold sDir
        rw [if_pos hd]
        rfl
      · refine zk_some ⟨?_, hs⟩
        show -1 = sBv (sDir g w)
        unfold sDir
        rw [if_neg hd]
        rfl
  · have gl := znle hlt
    have hk : (i : Int) < (g 0).toInt := by omega
    have ex := zTe (zTadd (zTs x2) (zTl zt_1) (by omega) (by omega))
    have hl := sLs_b o.1 (o.2.1 i hk)
    have nx7 : ∀ (y : Int32) (t : zg_S), t 1 = g → ((y = -1 ∧ sBL g (i + 1) = (0, 0)) ∨ (∃ w : Nat, (w : Int) < (g 0).toInt ∧ y.toInt = w ∧ sShd g (g 7) (g (11 + 4 * w + 1)) = 0 ∧ sBL g (i + 1) = (sDir g w, sLs g w) ∧ 0 < (sLs g w).toInt)) → zk (B_X7_hauls_125 rec x2 y t) (fun r s => r = sBv (sBL g (g 0).toNatClampNeg).1 ∧ s 1 = g) := fun y t ht hy => by
      unfold B_X7_hauls_125
      exact ih y (x2 + 1) t ⟨ht, i + 1, by rw [ex, hi]; rfl, by omega, hy⟩ (by show (9 - (x2 + 1).toInt).toNat < (9 - x2.toInt).toNat; rw [ex]; omega)
    -- nothing changes
    have keep : ∀ t : zg_S, t 1 = g → sLo g i ≤ (sBL g i).2 → zk (B_X7_hauls_124 rec x1 x2 t) (fun r s => r = sBv (sBL g (g 0).toNatClampNeg).1 ∧ s 1 = g) := fun t ht hle => by
      unfold B_X7_hauls_124
      refine nx7 x1 t ht ?_
      rw [sBL_s, if_pos hle]
      exact hx
    have hb2 : 0 ≤ (sBL g i).2.toInt := by
      rcases hx with ⟨_, hB⟩ | ⟨w, _, _, _, hB, hp⟩
      · rw [hB]; exact Int.le_of_eq e0.symm
      · rw [hB]; show 0 ≤ (sLs g w).toInt; omega
    have take : ∀ t : zg_S, t 1 = g → sShd g (g 7) (g (11 + 4 * i + 1)) = 0 → 0 < (sLs g i).toInt → ¬ sLo g i ≤ (sBL g i).2 → zk (B_X7_hauls_120 rec x2 t) (fun r s => r = sBv (sBL g (g 0).toNatClampNeg).1 ∧ s 1 = g) := fun t ht hz hp hle => by
      unfold B_X7_hauls_120
      refine nx7 x2 t ht (Or.inr ⟨i, hk, hi, hz, ?_, hp⟩)
      rw [sBL_s, if_neg hle]
      unfold sLo
      rw [if_pos hz]
    refine zk_e (r_shaded hs o hi hk) ?_
    refine zk_ite (fun hz => ?_) (fun hz => ?_)
    · have eL : sLo g i = sLs g i := by unfold sLo; rw [if_pos hz]
      refine zk_call (r_spoils hs o hV hi hk) (fun r t hp => ?_)
      obtain ⟨hr, ht⟩ := hp
      subst hr
      refine zk_ite (fun hle => ?_) (fun hlt => ?_)
      · have g1 := zle hle
        unfold B_X7_hauls_97 B_X7_hauls_98
        refine zk_ite (fun _ => keep t ht (Int32.le_iff_toInt_le.mpr (by rw [eL]; omega))) (fun z => absurd rfl z)
      · have g1 := znle hlt
        unfold B_X7_hauls_98
        refine zk_ite (fun z => absurd z (by decide)) (fun _ => ?_)
        rcases hx with ⟨hx, hB⟩ | ⟨w, hw, hx, hwz, hB, hwp⟩
        · refine zk_ite (fun _ => take t ht hz (by omega) (fun z => ?_)) (fun z => absurd (show x1 < 0 by rw [hx]; decide) z)
          have := zle z
          rw [eL, hB] at this
          have e00 : ((0 : Int32), (0 : Int32)).2.toInt = 0 := e0
          omega
        · refine zk_ite (fun z => absurd (zlt z) (by omega)) (fun _ => ?_)
          refine zk_call (r_spoils ht o hV hi hk) (fun r u hp => ?_)
          obtain ⟨hr, hu⟩ := hp
          subst hr
          refine zk_call (r_spoils hu o hV hx hw) (fun r v hp => ?_)
          obtain ⟨hr, hv⟩ := hp
          subst hr
          refine zk_ite (fun hle => ?_) (fun hlt => ?_)
          · exact keep v hv (by rw [eL, hB]; exact hle)
          · exact take v hv hz (by omega) (by rw [eL, hB]; exact hlt)
    · have eL : sLo g i = 0 := by unfold sLo; rw [if_neg hz]
      unfold B_X7_hauls_97 B_X7_hauls_98
      exact zk_ite (fun _ => keep s hs (Int32.le_iff_toInt_le.mpr (by rw [eL]; omega))) (fun z => absurd rfl z)
theorem r_hauls (h1 : τ 1 = g) (o : gOK g) (hV : tvs g) : zk (f_X7_hauls τ) (fun r s => r = sBv (sHl g) ∧ s 1 = g) := by
  obtain ⟨_, _, _, _, _, hm⟩ := id o.1
  unfold f_X7_hauls sHl
  rw [show τ 1 10 = g 10 from congrFun h1 10]
  refine zk_ite (fun c0 => ?_) (fun c0 => ?_)
  · rw [c0]
    exact zk_some ⟨rfl, h1⟩
  · refine zk_ite (fun c2 => ?_) (fun c2 => ?_)
    · rw [c2, if_neg (by decide), if_pos rfl]
      refine zk_call (r_payIf h1 o 1 (Or.inr (Or.inl rfl))) (fun r s hp => ?_)
      obtain ⟨hr, hs, _⟩ := hp
      subst hr
      refine zk_call (r_payIf hs o 0 (Or.inl rfl)) (fun r t hp => ?_)
      obtain ⟨hr, ht, _⟩ := hp
      subst hr
      have b43 : ∀ (mv : Int32) (u : zg_S), (mv = 0 ∨ mv = 1 ∨ mv = 2) → u 1 = g → sByPay g = (if sPy g 2 ≤ sPy g mv then mv else 2) → zk (B_X7_hauls_43 (sBv mv) u) (fun r s => r = sBv (sByPay g) ∧ s 1 = g) := fun mv u hmv hu hb => by
        unfold B_X7_hauls_43
        refine zk_call (r_payIf hu o 2 (Or.inr (Or.inr rfl))) (fun r v hp => ?_)
        obtain ⟨hr, hv, _⟩ := hp
        subst hr
        refine zk_call (r_payIf hv o mv hmv) (fun r w hp => ?_)
        obtain ⟨hr, hw, _⟩ := hp
        subst hr
        refine zk_ite (fun hle => ?_) (fun hlt => ?_)
        · exact zk_some ⟨by rw [hb, if_pos hle], hw⟩
        · exact zk_some ⟨by rw [hb, if_neg hlt]; rfl, hw⟩
      refine zk_ite (fun hle => ?_) (fun hlt => ?_)
      · exact b43 0 t (Or.inl rfl) ht (by unfold sByPay; rw [if_pos hle, if_pos hle])
      · exact b43 1 t (Or.inr (Or.inl rfl)) ht (by unfold sByPay; rw [if_neg hlt, if_neg hlt])
    · have c1 : g 10 = 1 := by
        rcases i9 (g 10) hm.1 (by omega) with c | c | c | c | c | c | c | c | c
        · exact absurd c c0
        · exact c
        · exact absurd c c2
        · exact absurd (congrArg Int32.toInt c) (by rw [zt_3]; omega)
        · exact absurd (congrArg Int32.toInt c) (by rw [zt_4]; omega)
        · exact absurd (congrArg Int32.toInt c) (by rw [zt_5]; omega)
        · exact absurd (congrArg Int32.toInt c) (by rw [zt_6]; omega)
        · exact absurd (congrArg Int32.toInt c) (by rw [zt_7]; omega)
        · exact absurd (congrArg Int32.toInt c) (by rw [zt_8]; omega)
      rw [if_pos c1]
      exact r_hauls1 h1 o hV
theorem sHl_m (g : Nat → Int32) : sHl g = 0 ∨ sHl g = 1 ∨ sHl g = 2 := by
  unfold sHl
  by_cases c : g 10 = 1
  · rw [if_pos c]
    have hb : ∀ k, (sBL g k).1 = 0 ∨ (sBL g k).1 = 1 ∨ (sBL g k).1 = 2 := by
      intro k
      induction k with
      | zero => exact Or.inl rfl
      | succ k ih =>
        rw [sBL_s]
        by_cases d : sLo g k ≤ (sBL g k).2
        · rw [if_pos d]; exact ih
        · rw [if_neg d]
          show sDir g k = 0 ∨ sDir g k = 1 ∨ sDir g k = 2
          unfold sDir
          by_cases f : g 7 + sO g ≤ g (11 + 4 * k + 1)
          · rw [if_pos f]; exact Or.inr (Or.inr rfl)
          · rw [if_neg f]; exact Or.inr (Or.inl rfl)
    exact hb _
  · rw [if_neg c]
    by_cases d : g 10 = 2
    · rw [if_pos d]
      unfold sByPay
      by_cases f : sPy g 2 ≤ (if sPy g 1 ≤ sPy g 0 then sPy g 0 else sPy g 1)
      · rw [if_pos f]
        by_cases f' : sPy g 1 ≤ sPy g 0
        · rw [if_pos f']; exact Or.inl rfl
        · rw [if_neg f']; exact Or.inr (Or.inl rfl)
      · rw [if_neg f]; exact Or.inr (Or.inr rfl)
    · rw [if_neg d]; exact Or.inl rfl
theorem r_drawn (h1 : τ 1 = g) : f_X7_drawn τ = some (sD (sZ (g 6)), zg_up τ 1 6 (sZ (g 6))) := by
  unfold f_X7_drawn
  rw [h1]
  show some ((Int32.toUInt32 (zg_up τ 1 6 (sZ (g 6)) 1 6) >>> (Int32.toUInt32 8 &&& Int32.toUInt32 31)).toInt32, zg_up τ 1 6 (sZ (g 6))) = _
  rw [zgot]
  rfl
theorem up_row {k : Nat} {v : Int32} (h1 : τ 1 = g) : zg_up τ 1 k v 1 = upd g k v := by
  refine zg_row_eq.trans ?_
  rw [h1]
theorem r_sets {a1 a2 v : Int32} {k j : Nat} (h1 : τ 1 = g) (ha : a1.toInt = k) (hk : k ≤ 8) (hj : a2.toInt = j) (hj2 : j ≤ 3) : f_X7_sets a1 a2 v τ = some (0, zg_up τ 1 (11 + 4 * k + j) v) := by
  have e11 := zt_11
  have e4 := zt_4
  have p := zTadd (zTadd (zTl zt_11) (zTmul (zTl zt_4) (zTs a1) (by omega) (by omega)) (by omega) (by omega)) (zTs a2) (by omega) (by omega)
  unfold f_X7_sets
  rw [if_pos (zin_mkT p (by omega) (by omega)), zTn p (show (11 + 4 * a1.toInt + a2.toInt : Int) = ((11 + 4 * k + j : Nat) : Int) by omega)]
  rfl
theorem zin3 : zin 3 3047 = true := by decide
theorem zin5 : zin 5 3047 = true := by decide
theorem r_goesOnBy (h1 : τ 1 = g) (o : gOK g) (hV : tvs g) (mv : Int32) (hm : mv = 0 ∨ mv = 1 ∨ mv = 2) : zk (f_X7_goesOnBy (sBv mv) τ) (fun _ s => s 1 = sHr g (sTo g mv)) := by
  obtain ⟨hN, _, h8, _⟩ := id o.1
  have e0 := zt_0
  have e1 := zt_1
  have nn := ztn hN.1
  unfold f_X7_goesOnBy
  rw [h1]
  refine zk_let (fun s0 q0 => ?_)
  have r0 : s0 1 = upd g 7 (g 7 + sBv mv) := by rw [q0]; exact up_row h1
  have hh := r_holds r0 (by rw [pk_un (by decide)]; exact h8)
  rw [pk_us, pk_un (by decide), sTo_r o.1 mv hm] at hh
  refine zk_e hh ?_
  have r1 : zg_up s0 1 7 (sTo g mv) 1 = upd g 7 (sTo g mv) := by rw [up_row r0, upd_upd]
  have o1 := o.first (sTo_b o.1 mv)
  have V1 : tvs (upd g 7 (sTo g mv)) := hV.st (STx.rf.up (by decide) (by decide))
  have g10 : upd g 7 (sTo g mv) 0 = g 0 := pk_un (by decide)
  unfold sHr
  generalize zg_up s0 1 7 (sTo g mv) = s1 at r1 ⊢
  generalize upd g 7 (sTo g mv) = g1 at r1 o1 V1 g10 ⊢
  unfold L_X7_goesOnBy_17
  refine zl_I (fun (x2 : Int32) (s : zg_S) => ∃ i : Nat, x2.toInt = i ∧ (i : Int) ≤ (g 0).toInt ∧ s 1 = sLp g1 i) (fun (x2 : Int32) (_ : zg_S) => (9 - x2.toInt).toNat) ?_ zfu _ _ ⟨0, e0, by omega, r1⟩ (by unfold zfu; omega)
  intro rec x2 s hI ih
  obtain ⟨i, hi, hi2, hs⟩ := hI
  have hgi : sLp g1 i 0 = g 0 := (sLp_c (by decide) (by decide) (by decide) i (by omega)).trans g10
  have oi : gOK (sLp g1 i) := sLp_ok o1 i (by rw [g10]; exact hi2)
  have Vi : tvs (sLp g1 i) := V1.st ⟨sLp_c (by decide) (by decide) (by decide) i (by omega), fun j hj => sLp_c (by omega) (by omega) (by omega) i (by omega)⟩
  unfold B_X7_goesOnBy_17
  rw [show s 1 0 = g 0 from (congrFun hs 0).trans hgi]
  refine zk_ite (fun hle => ?_) (fun hlt => ?_)
  · have gl := zle hle
    rw [show (g 0).toNatClampNeg = i by omega]
    generalize sLp g1 i = w at hs oi ⊢
    refine zk_e (r_drawn hs) ?_
    have d1 : zg_up s 1 6 (sZ (w 6)) 1 = upd w 6 (sZ (w 6)) := up_row hs
    rw [show zg_up s 1 6 (sZ (w 6)) 1 9 = w 9 by rw [d1]; exact pk_un (by decide)]
    have b149 : ∀ (t : zg_S), t 1 = sBl w → zk (B_X7_goesOnBy_149 (sBv mv) t) (fun _ s => s 1 = upd (sBl w) 2 (sBl w 2 + 1)) := fun t ht => by
      unfold B_X7_goesOnBy_149
      refine zk_let (fun u q => zk_some ?_)
      rw [q, up_row ht, ht]
    refine zk_ite (fun hc => ?_) (fun hc => ?_)
    · refine b149 _ ?_
      rw [d1]
      unfold sBl
      rw [if_neg (nlt_i (zle hc))]
    · have hc' : sD (sZ (w 6)) - sD (sZ (w 6)) / 100 * 100 < w 9 := lt_i (znle hc)
      have dd := r_drawn d1
      rw [pk_us] at dd
      refine zk_e dd ?_
      have d2 : zg_up (zg_up s 1 6 (sZ (w 6))) 1 6 (sZ (sZ (w 6))) 1 = upd w 6 (sZ (sZ (w 6))) := by rw [up_row d1, upd_upd]
      generalize zg_up (zg_up s 1 6 (sZ (w 6))) 1 6 (sZ (sZ (w 6))) = t2 at d2 ⊢
      refine zk_let (fun y ey => ?_)
      refine zk_let (fun t3 q3 => ?_)
      have ey' : y = w 7 + sBy3 (sZ (sZ (w 6))) := by rw [ey, d2, pk_un (by decide)]; rfl
      have d3 : t3 1 = upd (upd w 6 (sZ (sZ (w 6)))) 7 y := by rw [q3]; exact up_row d2
      have h3 := r_holds d3 (by rw [pk_un (by decide), pk_un (by decide)]; exact oi.1.2.2.1)
      rw [pk_us, pk_un (by decide), pk_un (by decide), ey'] at h3
      refine zk_e h3 ?_
      have d4 : zg_up t3 1 7 (sHeld (w 7 + sBy3 (sZ (sZ (w 6)))) 0 (12 - w 8)) 1 = upd (upd w 6 (sZ (sZ (w 6)))) 7 (sHeld (w 7 + sBy3 (sZ (sZ (w 6)))) 0 (12 - w 8)) := by rw [up_row d3, upd_upd]
      generalize zg_up t3 1 7 (sHeld (w 7 + sBy3 (sZ (sZ (w 6)))) 0 (12 - w 8)) = t4 at d4 ⊢
      have b147 : ∀ v : Int32, v = (if sBy3 (sZ (sZ (w 6))) = 0 then 0 else 1) → zk (B_X7_goesOnBy_147 (sBv mv) v (t4 1 5) 5 t4) (fun _ s => s 1 = upd (sBl w) 2 (sBl w 2 + 1)) := fun v hv => by
        unfold B_X7_goesOnBy_147
        refine zk_in zin5 ?_
        refine zk_let (fun t5 q5 => ?_)
        refine b149 t5 ?_
        rw [q5, show Int32.toNatClampNeg 5 = 5 by decide, up_row d4, show t4 1 5 = w 5 by rw [d4, pk_un (by decide), pk_un (by decide)], hv]
        unfold sBl
        rw [if_pos hc']
      refine zk_ite (fun hz => ?_) (fun hz => ?_)
      · exact b147 0 (by rw [if_pos (show sBy3 (sZ (sZ (w 6))) = 0 from hz)])
      · exact b147 1 (by rw [if_neg (show ¬ sBy3 (sZ (sZ (w 6))) = 0 from hz)])
  · have gl := znle hlt
    have hk : (i : Int) < (sLp g1 i 0).toInt := by rw [hgi]; omega
    have ex := zTe (zTadd (zTs x2) (zTl zt_1) (by omega) (by omega))
    have nx7 : ∀ t : zg_S, t 1 = sSt (sLp g1 i) i → zk (rec (x2 + 1) t) (fun _ s => s 1 = upd (sBl (sLp g1 (g 0).toNatClampNeg)) 2 (sBl (sLp g1 (g 0).toNatClampNeg) 2 + 1)) := fun t ht => ih (x2 + 1) t ⟨i + 1, by rw [ex, hi]; rfl, by omega, ht⟩ (by show (9 - (x2 + 1).toInt).toNat < (9 - x2.toInt).toNat; rw [ex]; omega)
    have k8 : i ≤ 8 := by omega
    generalize sLp g1 i = w at hs oi Vi hk nx7 hgi ⊢
    refine zk_call (r_spoils hs oi Vi hi hk) (fun r t hp => ?_)
    obtain ⟨hr, ht⟩ := hp
    subst hr
    refine zk_let (fun t1 q1 => ?_)
    rw [show t 1 4 = w 4 from congrFun ht 4] at q1
    have d1 : t1 1 = upd w 4 (w 4 + sLs w i) := by rw [q1]; exact up_row ht
    have ho := r_of (a2 := 2) d1 hi k8 zt_2 (by decide)
    rw [pk_un (by omega)] at ho
    refine zk_e ho ?_
    refine zk_e (r_sets d1 hi k8 zt_2 (by decide)) ?_
    have d2 : zg_up t1 1 (11 + 4 * i + 2) (w (11 + 4 * i + 2) - sLs w i) 1 = upd (upd w 4 (w 4 + sLs w i)) (11 + 4 * i + 2) (w (11 + 4 * i + 2) - sLs w i) := up_row d1
    generalize zg_up t1 1 (11 + 4 * i + 2) (w (11 + 4 * i + 2) - sLs w i) = t2 at d2 ⊢
    have c2 : ∀ j, j ≠ 4 → j ≠ 11 + 4 * i + 2 → upd (upd w 4 (w 4 + sLs w i)) (11 + 4 * i + 2) (w (11 + 4 * i + 2) - sLs w i) j = w j := fun j j1 j2 => by rw [pk_un j2, pk_un j1]
    obtain ⟨_, w2, w8, _⟩ := id oi.1
    have sh := r_isShaded d2 hi k8 (by rw [c2 2 (by decide) (by omega)]; exact w2.1) (by rw [c2 8 (by decide) (by omega)]; exact w8) (by rw [c2 7 (by decide) (by omega)]; exact gF oi.1)
    rw [c2 7 (by decide) (by omega), c2 (11 + 4 * i + 1) (by omega) (by omega), sShd_c (c2 2 (by decide) (by omega)) (c2 8 (by decide) (by omega))] at sh
    refine zk_e sh ?_
    have b82 : ∀ v : Int32, v = (if sShd w (w 7) (w (11 + 4 * i + 1)) = 0 then 0 else w (11 + 4 * i + 3)) → zk (B_X7_goesOnBy_82 (sBv mv) rec x2 v (t2 1 3) 3 t2) (fun _ s => s 1 = upd (sBl (sLp g1 (g 0).toNatClampNeg)) 2 (sBl (sLp g1 (g 0).toNatClampNeg) 2 + 1)) := fun v hv => by
      unfold B_X7_goesOnBy_82
      refine zk_in zin3 ?_
      refine zk_let (fun t3 q3 => ?_)
      refine nx7 t3 ?_
      rw [q3, show Int32.toNatClampNeg 3 = 3 by decide, up_row d2, show t2 1 3 = w 3 by rw [d2]; exact c2 3 (by decide) (by omega), hv]
      rfl
    refine zk_ite (fun hz => ?_) (fun hz => ?_)
    · exact b82 0 (by rw [if_pos hz])
    · have h3 := r_of (a2 := 3) d2 hi k8 zt_3 (by decide)
      rw [c2 (11 + 4 * i + 3) (by omega) (by omega)] at h3
      refine zk_e h3 ?_
      exact b82 _ (by rw [if_neg hz])
theorem r_go (h1 : τ 1 = g) (o : gOK g) (hV : tvs g) : zk (f_X7_goesOn τ) (fun _ s => s 1 = sGo g ∧ wr W_X7_goesOn τ s) := by
  refine zk_w ?_ (w_X7_goesOn τ)
  unfold f_X7_goesOn
  refine zk_call (r_hauls h1 o hV) (fun r s hp => ?_)
  obtain ⟨hr, hs⟩ := hp
  subst hr
  exact zk_call (r_goesOnBy hs o hV (sHl g) (sHl_m g)) (fun _ t ht => zk_some ht)
end
