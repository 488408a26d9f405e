theorem upd_self {g : Nat → Int32} {i : Nat} {v : Int32} (h : v = g i) : upd g i v = g := funext (fun j => by
  by_cases e : j = i
  · subst e; rw [pk_us, h]
  · rw [pk_un e])
theorem upd_upd {g : Nat → Int32} {i : Nat} {a b : Int32} : upd (upd g i a) i b = upd g i b := funext (fun j => by
  by_cases e : j = i
  · subst e; rw [pk_us, pk_us]
  · rw [pk_un e, pk_un e, pk_un e])
theorem upd_comm {g : Nat → Int32} {i j : Nat} {a b : Int32} (h : i ≠ j) : upd (upd g i a) j b = upd (upd g j b) i a := funext (fun k => by
  by_cases e : k = j
  · subst e
    rw [pk_us, pk_un (Ne.symm h), pk_us]
  · rw [pk_un e]
    by_cases f : k = i
    · subst f; rw [pk_us, pk_us]
    · rw [pk_un f, pk_un f, pk_un e])
/-! what an hour leaves of g -/
theorem sTo_b {g : Nat → Int32} (hB : gB g) (mv : Int32) : 0 ≤ (sTo g mv).toInt ∧ (sTo g mv).toInt ≤ 12 - (g 8).toInt := by
  obtain ⟨_, _, h8, h7, _, _⟩ := hB
  have e0 := zt_0
  have e1 := zt_1
  have e12 := zt_12
  have a := zTe (zTsub (zTs (g 7)) (zTl zt_1) (by omega) (by omega))
  have b := zTe (zTadd (zTs (g 7)) (zTl zt_1) (by omega) (by omega))
  have c := zTe (zTsub (zTl zt_12) (zTs (g 8)) (by omega) (by omega))
  unfold sTo
  by_cases c1 : mv = 1
  · rw [if_pos c1]
    by_cases d : g 7 - 1 < 0
    · rw [if_pos d]; omega
    · rw [if_neg d]; have := znlt d; omega
  · rw [if_neg c1]
    by_cases c2 : mv = 2
    · rw [if_pos c2]
      by_cases d : 12 - g 8 < g 7 + 1
      · rw [if_pos d]; omega
      · rw [if_neg d]; have := znlt d; omega
    · rw [if_neg c2]; omega
theorem sBl_c {g : Nat → Int32} {i : Nat} (h5 : i ≠ 5) (h6 : i ≠ 6) (h7 : i ≠ 7) : sBl g i = g i := by
  unfold sBl
  by_cases c : sD (sZ (g 6)) - sD (sZ (g 6)) / 100 * 100 < g 9
  · rw [if_pos c, pk_un h5, pk_un h7, pk_un h6]
  · rw [if_neg c, pk_un h6]
theorem g12 {g : Nat → Int32} (hB : gB g) : (12 - g 8).toInt = 12 - (g 8).toInt := by
  obtain ⟨_, _, h8, _⟩ := hB
  have e12 := zt_12
  exact zTe (zTsub (zTl zt_12) (zTs (g 8)) (by omega) (by omega))
theorem sBl_ok {g : Nat → Int32} (o : gOK g) : gOK (sBl g) := by
  have e := g12 o.1
  obtain ⟨_, _, h8, _⟩ := o.1
  unfold sBl
  by_cases c : sD (sZ (g 6)) - sD (sZ (g 6)) / 100 * 100 < g 9
  · rw [if_pos c]
    refine ((o.lo (Or.inr (Or.inr (Or.inr rfl)))).first ?_).lo (Or.inr (Or.inr (Or.inl rfl)))
    rw [pk_un (by decide), ← e]
    exact sHeld_b _ _ (by omega)
  · rw [if_neg c]
    exact o.lo (Or.inr (Or.inr (Or.inr rfl)))
theorem sHr_c {g : Nat → Int32} {F : Int32} {i : Nat} (hN : 0 ≤ (g 0).toInt ∧ (g 0).toInt ≤ 9) (h : i = 0 ∨ i = 1 ∨ (8 ≤ i ∧ i < 11) ∨ 47 ≤ i ∨ (11 ≤ i ∧ i % 4 ≠ 1)) : sHr g F i = g i := by
  have nn := ztn hN.1
  unfold sHr
  rw [pk_un (by omega), sBl_c (by omega) (by omega) (by omega), sLp_c (by omega) (by omega) (by omega) _ (by omega), pk_un (by omega)]
theorem sHr_st {g : Nat → Int32} {F : Int32} (hN : 0 ≤ (g 0).toInt ∧ (g 0).toInt ≤ 9) : STx g (sHr g F) := ⟨sHr_c hN (by decide), fun i hi => sHr_c hN (by omega)⟩
theorem sHr_2 {g : Nat → Int32} {F : Int32} (hN : 0 ≤ (g 0).toInt ∧ (g 0).toInt ≤ 9) : sHr g F 2 = g 2 + 1 := by
  have nn := ztn hN.1
  unfold sHr
  rw [pk_us, sBl_c (by decide) (by decide) (by decide), sLp_c (by decide) (by decide) (by decide) _ (by omega), pk_un (by decide)]
theorem sHr_ok {g : Nat → Int32} {F : Int32} (o : gOK g) (h : (g 2).toInt < 20000) (hF : 0 ≤ F.toInt ∧ F.toInt ≤ 12 - (g 8).toInt) : gOK (sHr g F) := by
  obtain ⟨hN, h2, _⟩ := o.1
  have nn := ztn hN.1
  have e1 := zt_1
  have e := zTe (zTadd (zTs (g 2)) (zTl zt_1) (by omega) (by omega))
  have e2 := sHr_2 (F := F) hN
  unfold sHr at e2 ⊢
  rw [pk_us] at e2
  rw [e2]
  refine (sBl_ok (sLp_ok (o.first hF) _ ?_)).hour ⟨by rw [e]; omega, by rw [e]; omega⟩
  rw [pk_un (by decide)]
  omega
theorem sLp_sum {g : Nat → Int32} (o : gOK g) (h3 : 0 ≤ (g 3).toInt ∧ (g 3).toInt ≤ 1000000000) (h4 : 0 ≤ (g 4).toInt ∧ (g 4).toInt ≤ 1000000000) : ∀ k : Nat, (k : Int) ≤ (g 0).toInt → ((g 3).toInt ≤ (sLp g k 3).toInt ∧ (sLp g k 3).toInt ≤ (g 3).toInt + 99 * k) ∧ ((g 4).toInt ≤ (sLp g k 4).toInt ∧ (sLp g k 4).toInt ≤ (g 4).toInt + 999 * k) := by
  obtain ⟨hN, _⟩ := o.1
  intro k
  induction k with
  | zero => intro _; exact ⟨⟨Int.le_refl _, by show (g 3).toInt ≤ _; omega⟩, ⟨Int.le_refl _, by show (g 4).toInt ≤ _; omega⟩⟩
  | succ k ih =>
    intro hk
    obtain ⟨a, b⟩ := ih (by omega)
    have ok := sLp_ok o k (by omega)
    have e00 : sLp g k 0 = g 0 := sLp_c (by decide) (by decide) (by decide) k (by omega)
    have bs := ok.2.1 k (by rw [e00]; omega)
    have hl := sLs_b ok.1 bs
    obtain ⟨_, _, h2, h5⟩ := bs
    have e0 := zt_0
    show ((g 3).toInt ≤ (sSt (sLp g k) k 3).toInt ∧ (sSt (sLp g k) k 3).toInt ≤ (g 3).toInt + 99 * ((k + 1 : Nat) : Int)) ∧ ((g 4).toInt ≤ (sSt (sLp g k) k 4).toInt ∧ (sSt (sLp g k) k 4).toInt ≤ (g 4).toInt + 999 * ((k + 1 : Nat) : Int))
    unfold sSt
    rw [pk_us, pk_un (by decide), pk_un (by omega), pk_us]
    rw [zTe (zTadd (zTs (sLp g k 4)) (zTs (sLs (sLp g k) k)) (by omega) (by omega))]
    refine ⟨?_, by omega⟩
    by_cases c : sShd (sLp g k) (sLp g k 7) (sLp g k (11 + 4 * k + 1)) = 0
    · rw [if_pos c, zTe (zTadd (zTs (sLp g k 3)) (zTl zt_0) (by omega) (by omega))]; omega
    · rw [if_neg c, zTe (zTadd (zTs (sLp g k 3)) (zTs (sLp g k (11 + 4 * k + 3))) (by omega) (by omega))]; omega
/-- coins, spoilt, torn behind an hour -/
theorem sHr_C {g : Nat → Int32} {F : Int32} (o : gOK g) (hc : gC g) (h : (g 2).toInt < 20000) (hF : 0 ≤ F.toInt ∧ F.toInt ≤ 12 - (g 8).toInt) : gC (sHr g F) ∧ (g 4).toInt ≤ (sHr g F 4).toInt := by
  obtain ⟨hN, h2, _⟩ := o.1
  obtain ⟨c3, c4, c5⟩ := hc
  have nn := ztn hN.1
  have e1 := zt_1
  have e0 := zt_0
  have e := zTe (zTadd (zTs (g 2)) (zTl zt_1) (by omega) (by omega))
  have e2 := sHr_2 (F := F) hN
  have of := o.first hF
  have sm := sLp_sum of (by rw [pk_un (by decide)]; omega) (by rw [pk_un (by decide)]; omega) (g 0).toNatClampNeg (by rw [pk_un (by decide)]; omega)
  rw [pk_un (by decide : 3 ≠ 7), pk_un (by decide : 4 ≠ 7)] at sm
  have k3 : sHr g F 3 = sLp (upd g 7 F) (g 0).toNatClampNeg 3 := by unfold sHr; rw [pk_un (by decide), sBl_c (by decide) (by decide) (by decide)]
  have k4 : sHr g F 4 = sLp (upd g 7 F) (g 0).toNatClampNeg 4 := by unfold sHr; rw [pk_un (by decide), sBl_c (by decide) (by decide) (by decide)]
  have k5 : (g 5).toInt ≤ (sHr g F 5).toInt ∧ (sHr g F 5).toInt ≤ (g 5).toInt + 1 := by
    have l5 : sLp (upd g 7 F) (g 0).toNatClampNeg 5 = g 5 := (sLp_c (by decide) (by decide) (by decide) _ (by omega)).trans (pk_un (by decide))
    unfold sHr
    rw [pk_un (by decide)]
    unfold sBl
    by_cases c : sD (sZ (sLp (upd g 7 F) (g 0).toNatClampNeg 6)) - sD (sZ (sLp (upd g 7 F) (g 0).toNatClampNeg 6)) / 100 * 100 < sLp (upd g 7 F) (g 0).toNatClampNeg 9
    · rw [if_pos c, pk_us, l5]
      by_cases d : sBy3 (sZ (sZ (sLp (upd g 7 F) (g 0).toNatClampNeg 6))) = 0
      · rw [if_pos d, zTe (zTadd (zTs (g 5)) (zTl zt_0) (by omega) (by omega))]; omega
      · rw [if_neg d, zTe (zTadd (zTs (g 5)) (zTl zt_1) (by omega) (by omega))]; omega
    · rw [if_neg c, pk_un (by decide), l5]; omega
  have e2' := congrArg Int32.toInt e2
  unfold gC
  rw [k3, k4]
  refine ⟨⟨⟨by omega, by omega⟩, ⟨by omega, by omega⟩, ⟨by omega, by omega⟩⟩, by omega⟩
/-! the class's hour -/
section
variable {σ : zg_S} {p : Nat} {g : Nat → Int32}
theorem txr_up {q k : Nat} {v : Int32} (h : TXR σ p g) (hn : (g 1).toInt ≤ 14) (h1 : q ≠ p + 2) (h2 : 53 ≤ q) : TXR (zg_up σ q k v) p g := h.wr hn (fun j => congrFun (zg_row_ne (Ne.symm h1)) j) (fun r j _ hr _ => congrFun (zg_row_ne (by omega)) j)
theorem c_draw (h : EQB σ p g) : f_X0_draw p σ = some (sD (sZ (g 6)), zg_up σ p 13 (sZ (g 6))) := by
  unfold f_X0_draw
  rw [show σ p 13 = g 6 from h.f 6 (by decide)]
  show some ((Int32.toUInt32 (zg_up σ p 13 (sZ (g 6)) p 13) >>> (Int32.toUInt32 8 &&& Int32.toUInt32 31)).toInt32, zg_up σ p 13 (sZ (g 6))) = _
  rw [zgot]
  rfl
theorem c_blow (h : EQB σ p g) : zk (f_X0_blow p σ) (fun _ s => EQB s p (sBl g)) := by
  unfold f_X0_blow
  refine zk_e (c_draw h) ?_
  have h1 : EQB (zg_up σ p 13 (sZ (g 6))) p (upd g 6 (sZ (g 6))) := h.up 6 (by decide) (by decide) rfl
  have n9 : (zg_up σ p 13 (sZ (g 6))) p 8 = g 9 := (h1.f 9 (by decide)).trans (pk_un (by decide))
  rw [n9]
  unfold sBl
  refine zk_ite (fun hc => ?_) (fun hc => ?_)
  · rw [if_pos hc]
    have d2 := c_draw h1
    rw [pk_us] at d2
    refine zk_e d2 ?_
    have h2 : EQB (zg_up (zg_up σ p 13 (sZ (g 6))) p 13 (sZ (sZ (g 6)))) p (upd g 6 (sZ (sZ (g 6)))) := by
      have := h1.up (v := sZ (sZ (g 6))) 6 (by decide) (by decide) rfl
      rw [upd_upd] at this
      exact this
    have l2 := c_lastFirst h2
    rw [pk_un (by decide)] at l2
    refine zk_e l2 ?_
    refine zk_e (c_held _ _ _ _) ?_
    rw [show zg_up (zg_up σ p 13 (sZ (g 6))) p 13 (sZ (sZ (g 6))) p 6 = g 7 from (h2.f 7 (by decide)).trans (pk_un (by decide))]
    refine zk_let (fun s q => ?_)
    have h3 : EQB s p (upd (upd g 6 (sZ (sZ (g 6)))) 7 (sHeld (g 7 + sBy3 (sZ (sZ (g 6)))) 0 (12 - g 8))) := by
      rw [q]
      exact h2.up 7 (by decide) (by decide) rfl
    refine zk_ite (fun hz => ?_) (fun hz => ?_)
    · refine zk_some ?_
      rw [if_pos (show sBy3 (sZ (sZ (g 6))) = 0 from hz), upd_self]
      · exact h3
      · rw [pk_un (by decide), pk_un (by decide)]
        exact Int32.add_zero _
    · refine zk_let (fun t q2 => ?_)
      refine zk_some ?_
      rw [if_neg (show ¬ sBy3 (sZ (sZ (g 6))) = 0 from hz), q2]
      rw [show s p 12 = g 5 from (h3.f 5 (by decide)).trans ((pk_un (by decide)).trans (pk_un (by decide)))]
      exact h3.up 5 (by decide) (by decide) rfl
  · rw [if_neg hc]
    exact zk_some h1
theorem c_hour (h : EQB σ p g) (hT : TXR σ p g) (o : gOK g) (hp : 53 ≤ p) (mv : Int32) : zk (f_X0_passHour p mv σ) (fun _ s => EQB s p (sHr g (sTo g mv)) ∧ TXR s p (sHr g (sTo g mv))) := by
  obtain ⟨hN, _⟩ := id o.1
  have e0 := zt_0
  have e1 := zt_1
  have nn := ztn hN.1
  unfold f_X0_passHour
  refine zk_e (c_hauledTo h mv) ?_
  refine zk_let (fun s1 q1 => ?_)
  have h1 : EQB s1 p (upd g 7 (sTo g mv)) := by rw [q1]; exact h.up 7 (by decide) (by decide) rfl
  have o1 : gOK (upd g 7 (sTo g mv)) := o.first (sTo_b o.1 mv)
  have T1 : TXR s1 p (upd g 7 (sTo g mv)) := by rw [q1]; exact (txr_up hT o.2.2.1.2 (by omega) hp).st (STx.rf.up (by decide) (by decide))
  have g10 : upd g 7 (sTo g mv) 0 = g 0 := pk_un (by decide)
  unfold sHr
  generalize upd g 7 (sTo g mv) = g1 at h1 o1 T1 g10 ⊢
  unfold L_X0_passHour_11
  refine zl_I (fun (x2 : Int32) (s : zg_S) => ∃ i : Nat, x2.toInt = i ∧ (i : Int) ≤ (g 0).toInt ∧ EQB s p (sLp g1 i) ∧ TXR s p (sLp g1 i)) (fun (x2 : Int32) (_ : zg_S) => (9 - x2.toInt).toNat) ?_ zfu _ _ ⟨0, e0, by omega, h1, T1⟩ (by unfold zfu; omega)
  intro rec x2 s hI ih
  obtain ⟨i, hi, hi2, hs, Ts⟩ := hI
  have hgi : sLp g1 i 0 = g 0 := (sLp_c (by decide) (by decide) (by decide) i (by omega)).trans g10
  have oi : gOK (sLp g1 i) := sLp_ok o1 i (by rw [g10]; exact hi2)
  unfold B_X0_passHour_11
  rw [show s p 3 = g 0 from (hs.f 0 (by decide)).trans hgi]
  refine zk_ite (fun hle => ?_) (fun hlt => ?_)
  · have gl := zle hle
    have ei : (g 0).toNatClampNeg = i := by omega
    rw [ei]
    refine zk_call (zk_w (c_blow hs) (w_X0_blow p s)) (fun _ t hp' => ?_)
    obtain ⟨ht, hw⟩ := hp'
    refine zk_let (fun u q => ?_)
    have T2 : TXR t p (sBl (sLp g1 i)) := (Ts.wr oi.2.2.1.2 (fun k => hw _ k (by unfold W_X0_blow; omega)) (fun r k _ hr _ => hw r k (by unfold W_X0_blow; omega))).st ⟨sBl_c (by decide) (by decide) (by decide), fun j hj => sBl_c (by omega) (by omega) (by omega)⟩
    refine zk_some ⟨?_, ?_⟩
    · rw [q, show t p 7 = sBl (sLp g1 i) 2 from ht.f 2 (by decide)]
      exact ht.up 2 (by decide) (by decide) rfl
    · rw [q]
      exact (txr_up T2 (sBl_ok oi).2.2.1.2 (by omega) hp).st (STx.rf.up (by decide) (by decide))
  · have gl := znle hlt
    have ni := ztn (i := x2) (by omega)
    have hk : (i : Int) < (sLp g1 i 0).toInt := by rw [hgi]; omega
    refine zk_in (zin_mk (by omega) (by omega)) ?_
    rw [show x2.toNatClampNeg = i by omega]
    have ex := zTe (zTadd (zTs x2) (zTl zt_1) (by omega) (by omega))
    have so := sSt_ok oi hk
    have nx7 : ∀ t : zg_S, EQB t p (sSt (sLp g1 i) i) → TXR t p (sSt (sLp g1 i) i) → zk (B_X0_passHour_79 p mv rec x2 t) (fun _ s => EQB s p (upd (sBl (sLp g1 (g 0).toNatClampNeg)) 2 (sBl (sLp g1 (g 0).toNatClampNeg) 2 + 1)) ∧ TXR s p (upd (sBl (sLp g1 (g 0).toNatClampNeg)) 2 (sBl (sLp g1 (g 0).toNatClampNeg) 2 + 1))) := fun t ht Tt => by
      unfold B_X0_passHour_79
      exact ih (x2 + 1) t ⟨i + 1, by rw [ex, hi]; rfl, by omega, ht, Tt⟩ (by show (9 - (x2 + 1).toInt).toNat < (9 - x2.toInt).toNat; rw [ex]; omega)
    generalize sLp g1 i = w at hs Ts oi hk so nx7 hgi ⊢
    refine zk_call (c_lossOf hs Ts oi hp i hk) (fun r t hp' => ?_)
    obtain ⟨hr, hw⟩ := hp'
    subst hr
    have ht := eqb_ws hs hp oi.1.1.2 hw
    have Tt := txr_ws Ts hp oi.2.2.1.2 hw
    have stx : STx w (sSt w i) := ⟨sSt_c (by decide) (by decide) (by omega), fun j hj => sSt_c (by omega) (by omega) (by omega)⟩
    refine zk_let (fun y ey => ?_)
    rw [ht.2 i 2 hk (by decide)] at ey
    refine zk_let (fun t1 q1 => ?_)
    have a1 : EQB t1 p (upd w (11 + 4 * i + 2) y) := by rw [q1]; exact ht.upS i 2 (by decide)
    have T1 : TXR t1 p w := by rw [q1]; exact txr_up Tt oi.2.2.1.2 (by omega) (by omega)
    refine zk_let (fun t2 q2 => ?_)
    rw [show t1 p 11 = w 4 from (a1.f 4 (by decide)).trans (pk_un (by omega))] at q2
    have a2 : EQB t2 p (upd (upd w (11 + 4 * i + 2) y) 4 (w 4 + sLs w i)) := by rw [q2]; exact a1.up 4 (by decide) (by decide) rfl
    have T2 : TXR t2 p w := by rw [q2]; exact txr_up T1 oi.2.2.1.2 (by omega) hp
    have c2 : ∀ j, j ≠ 4 → j ≠ 11 + 4 * i + 2 → upd (upd w (11 + 4 * i + 2) y) 4 (w 4 + sLs w i) j = w j := fun j j1 j2 => by rw [pk_un j1, pk_un j2]
    have hk2 : (i : Int) < (upd (upd w (11 + 4 * i + 2) y) 4 (w 4 + sLs w i) 0).toInt := by rw [c2 0 (by decide) (by omega)]; exact hk
    have sh := c_shades a2 (t2 (p + 1 + 2 + i) 1)
    rw [a2.2 i 1 hk2 (by decide), c2 _ (by omega) (by omega), c2 7 (by decide) (by omega), sShd_c (c2 2 (by decide) (by omega)) (c2 8 (by decide) (by omega))] at sh
    rw [a2.2 i 1 hk2 (by decide), c2 _ (by omega) (by omega)]
    refine zk_e sh ?_
    have eS : ∀ v : Int32, v = w 3 + (if sShd w (w 7) (w (11 + 4 * i + 1)) = 0 then 0 else w (11 + 4 * i + 3)) → sSt w i = upd (upd (upd w (11 + 4 * i + 2) y) 4 (w 4 + sLs w i)) 3 v := fun v hv => by
      unfold sSt
      rw [← hv, ey, upd_comm (i := 4) (j := 11 + 4 * i + 2) (by omega)]
    refine zk_ite (fun hz => ?_) (fun hz => ?_)
    · refine nx7 t2 ?_ (T2.st stx)
      rw [eS (w 3) (by rw [if_pos hz]; exact (Int32.add_zero _).symm), upd_self (c2 3 (by decide) (by omega)).symm]
      exact a2
    · refine zk_let (fun z ez => ?_)
      refine zk_let (fun t3 q3 => ?_)
      rw [show t2 p 10 = w 3 from (a2.f 3 (by decide)).trans (c2 3 (by decide) (by omega)), a2.2 i 3 hk2 (by decide), c2 _ (by omega) (by omega)] at ez
      refine nx7 t3 ?_ ?_
      · rw [eS z (by rw [if_neg hz]; exact ez), q3]
        exact a2.up 3 (by decide) (by decide) rfl
      · rw [q3]
        exact (txr_up T2 oi.2.2.1.2 (by omega) hp).st stx
end
