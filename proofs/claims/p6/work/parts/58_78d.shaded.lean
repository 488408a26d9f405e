/-! shaded -/
def sCs (g : Nat → Int32) (pl : Int32) : Nat → Int32
  | 0 => 0
  | i + 1 => if sShd (sGn g i) (sTo (sGn g i) (sHl (sGn g i))) pl = 0 then sCs g pl i else sCs g pl i + 1
theorem sGn_pl {g : Nat → Int32} (o : gOK g) (hC : gC g) (k : Nat) : ∀ n : Nat, (g 2).toInt + n ≤ 20000 → sGn g n (11 + 4 * k + 1) = g (11 + 4 * k + 1) := by
  intro n
  induction n with
  | zero => intro _; rfl
  | succ n ih =>
    intro hn
    obtain ⟨a, _⟩ := sGn_ok o hC n (by omega)
    show sHr (sGn g n) _ (11 + 4 * k + 1) = _
    rw [sHr_c a.1.1 (by omega)]
    exact ih (by omega)
theorem v_shaded {σ τ : zg_S} (h : RR σ τ) (a b : Int32) : z2 (f_X6_shaded a b σ) (f_X7_shaded a b τ) SM := by
  have e0 := zt_0
  have e1 := zt_1
  have e60 := zt_60
  obtain ⟨hE, hT, o, hC, h99⟩ := id h.1
  have es : σ 153 3 = τ 1 0 := h.f 0 (by decide)
  have n0 := o.1.1
  by_cases ca : 0 ≤ a.toInt ∧ a.toInt < (τ 1 0).toInt
  · have na := ztn ca.1
    by_cases cb : (1 : Int32).toInt ≤ b.toInt ∧ b.toInt ≤ (60 : Int32).toInt
    · refine th h ?_ (w_X6_shaded a b σ) (fun p k z => WT z)
      unfold f_X6_shaded f_X7_shaded
      refine z2_eL (c_isStall1 (by rw [es]; exact ca)) (z2_nL one_ne (z2_eL (c_within1 σ cb) (z2_nL one_ne ?_)))
      refine z2_eR (r_isStall1 ca) (z2_nR one_ne (z2_eR (r_isIn1 τ cb) (z2_nR one_ne ?_)))
      refine z2_cL (c_over hE hT o wr.rf) (fun _ s q => ?_)
      refine z2_cR (r_by' τ) (fun _ t p => ?_)
      refine z2_pL (zin_mk ca.1 (by omega)) (z2_lL (fun pl hpl => ?_))
      have hk : (a.toNatClampNeg : Int) < (τ 1 0).toInt := by omega
      have hpl' : pl = τ 1 (11 + 4 * a.toNatClampNeg + 1) := hpl.trans (q.1.1.2 _ 1 hk (by decide))
      have C : zk (L_X6_shaded_51 a b zfu pl 0 0 s) (fun r _ => r = sCs (τ 1) pl b.toInt.toNat) := by
        unfold L_X6_shaded_51
        refine zl_III (fun (x3 x4 x5 : Int32) (u : zg_S) => x3 = pl ∧ ∃ i : Nat, x5.toInt = i ∧ (i : Int) ≤ b.toInt ∧ x4 = sCs (τ 1) pl i ∧ EQB u 165 (sGn (τ 1) i) ∧ TXR u 165 (sGn (τ 1) i)) (fun (_ _ x5 : Int32) (_ : zg_S) => (60 - x5.toInt).toNat) ?_ zfu _ _ _ _ ⟨rfl, 0, e0, by omega, rfl, q.1.1, q.1.2⟩ (by unfold zfu; omega)
        intro rec x3 x4 x5 u hI ih
        obtain ⟨rfl, i, hi, hi2, hx, uE, uT⟩ := hI
        unfold B_X6_shaded_51
        refine zk_ite (fun hle => ?_) (fun hlt => ?_)
        · have := zle hle
          exact zk_some (by rw [show b.toInt.toNat = i by omega]; exact hx)
        · have gl := znle hlt
          obtain ⟨x1, _⟩ := sGn_ok o hC i (by omega)
          have ex := zTe (zTadd (zTs x5) (zTl zt_1) (by omega) (by omega))
          refine zk_call (c_hauling uE uT x1 (by decide)) (fun r v hq => ?_)
          obtain ⟨hr, hw⟩ := hq
          subst hr
          have vE := eqb_ws uE (by decide) x1.1.1.2 hw
          have vT := txr_ws uT (by decide) x1.2.2.1.2 hw
          refine zk_e (c_hauledTo vE _) (zk_e (c_wouldShade vE _ _) ?_)
          have eC : sCs (τ 1) x3 (i + 1) = if sShd (sGn (τ 1) i) (sTo (sGn (τ 1) i) (sHl (sGn (τ 1) i))) x3 = 0 then sCs (τ 1) x3 i else sCs (τ 1) x3 i + 1 := rfl
          have nx7 : ∀ y : Int32, y = sCs (τ 1) x3 (i + 1) → zk (B_X6_shaded_89 a b rec x3 y x5 (sHl (sGn (τ 1) i)) v) (fun r _ => r = sCs (τ 1) x3 b.toInt.toNat) := fun y hy => by
            unfold B_X6_shaded_89
            refine zk_call (c_hour vE vT x1 (by decide) _) (fun _ w hw' => ?_)
            exact ih x3 y (x5 + 1) w ⟨rfl, i + 1, by rw [ex, hi]; rfl, by omega, hy, hw'.1, hw'.2⟩ (by show (60 - (x5 + 1).toInt).toNat < (60 - x5.toInt).toNat; rw [ex]; omega)
          exact zk_ite (fun hz => nx7 _ (by rw [eC, if_pos hz]; exact hx)) (fun hz => nx7 _ (by rw [eC, if_neg hz, hx]))
      have D : zk (L_X7_shaded_32 a b zfu 0 0 t) (fun r u => r = sCs (τ 1) pl b.toInt.toNat ∧ u 1 = τ 1 ∧ KB τ u) := by
        unfold L_X7_shaded_32
        refine zl_II (fun (x3 x4 : Int32) (u : zg_S) => KB τ u ∧ ∃ i : Nat, x4.toInt = i ∧ (i : Int) ≤ b.toInt ∧ x3 = sCs (τ 1) pl i ∧ u 1 = sGn (τ 1) i) (fun (_ x4 : Int32) (_ : zg_S) => (60 - x4.toInt).toNat) ?_ zfu _ _ _ ⟨p.2, 0, e0, by omega, rfl, p.1⟩ (by unfold zfu; omega)
        intro rec x3 x4 u hI ih
        obtain ⟨kb, i, hi, hi2, hx, hu⟩ := hI
        obtain ⟨x1, _, x2, st, x5, _⟩ := sGn_ok o hC i (by omega)
        unfold B_X7_shaded_32
        refine zk_ite (fun hle => ?_) (fun hlt => ?_)
        · have := zle hle
          refine zk_call (r_bk' kb (fun k hk => by rw [hu]; exact st.2 k hk)) (fun _ t4 p4 => zk_some ⟨?_, p4⟩)
          rw [show b.toInt.toNat = i by omega]
          exact hx
        · have gl := znle hlt
          have ex := zTe (zTadd (zTs x4) (zTl zt_1) (by omega) (by omega))
          have V := hT.tv.st st
          refine zk_call (zk_w (r_hauls hu x1 V) (w_X7_hauls u)) (fun r v hq => ?_)
          obtain ⟨⟨hr, hv⟩, hw⟩ := hq
          subst hr
          have kv := kb.w hw (fun p k z => by unfold W_X7_hauls at z; omega)
          have hm := sHl_m (sGn (τ 1) i)
          rw [show v 1 7 = sGn (τ 1) i 7 from congrFun hv 7, show u 1 7 = sGn (τ 1) i 7 from congrFun hu 7]
          refine zk_let (fun t1 q1 => ?_)
          have d1 : t1 1 = upd (sGn (τ 1) i) 7 (sGn (τ 1) i 7 + sBv (sHl (sGn (τ 1) i))) := by rw [q1]; exact up_row hv
          have k1 : KB τ t1 := kv.w (W := fun p _ => p = 1) (fun p k hp => by rw [q1]; exact congrFun (zg_row_ne hp) k) (fun p k z => Or.inl z)
          have hh := r_holds d1 (by rw [pk_un (by decide)]; exact x1.1.2.2.1)
          rw [pk_us, pk_un (by decide), sTo_r x1.1 _ hm] at hh
          refine zk_e hh ?_
          have d2 : zg_up t1 1 7 (sTo (sGn (τ 1) i) (sHl (sGn (τ 1) i))) 1 = upd (sGn (τ 1) i) 7 (sTo (sGn (τ 1) i) (sHl (sGn (τ 1) i))) := by rw [up_row d1, upd_upd]
          have k2 : KB τ (zg_up t1 1 7 (sTo (sGn (τ 1) i) (sHl (sGn (τ 1) i)))) := k1.w (W := fun p _ => p = 1) (fun p k hp => congrFun (zg_row_ne hp) k) (fun p k z => Or.inl z)
          generalize zg_up t1 1 7 (sTo (sGn (τ 1) i) (sHl (sGn (τ 1) i))) = t2 at d2 k2 ⊢
          have o2 := x1.first (sTo_b x1.1 (sHl (sGn (τ 1) i)))
          have sh := r_shaded (a1 := a) (k := a.toNatClampNeg) d2 o2 (by omega) (by rw [pk_un (by decide), x5]; exact hk)
          rw [pk_us, pk_un (by omega), sShd_c (pk_un (by decide)) (pk_un (by decide)), sGn_pl o hC _ i (by omega), ← hpl'] at sh
          refine zk_e sh ?_
          have eC : sCs (τ 1) pl (i + 1) = if sShd (sGn (τ 1) i) (sTo (sGn (τ 1) i) (sHl (sGn (τ 1) i))) pl = 0 then sCs (τ 1) pl i else sCs (τ 1) pl i + 1 := rfl
          have nx7 : ∀ y : Int32, x3 + y = sCs (τ 1) pl (i + 1) → zk (B_X7_shaded_83 a b rec x4 (sGn (τ 1) i 7) (sBv (sHl (sGn (τ 1) i))) y x3 t2) (fun r u => r = sCs (τ 1) pl b.toInt.toNat ∧ u 1 = τ 1 ∧ KB τ u) := fun y hy => by
            unfold B_X7_shaded_83
            refine zk_let (fun t3 q3 => ?_)
            have d3 : t3 1 = sGn (τ 1) i := by
              rw [q3, up_row d2, upd_upd]
              exact upd_self rfl
            have k3 : KB τ t3 := k2.w (W := fun p _ => p = 1) (fun p k hp => by rw [q3]; exact congrFun (zg_row_ne hp) k) (fun p k z => Or.inl z)
            refine zk_call (zk_w (r_goesOnBy d3 x1 V _ hm) (w_X7_goesOnBy _ t3)) (fun _ t4 p4 => ?_)
            have k4 := k3.w p4.2 (fun p k z => by unfold W_X7_goesOnBy at z; omega)
            exact ih _ (x4 + 1) t4 ⟨k4, i + 1, by rw [ex, hi]; rfl, by omega, hy, p4.1⟩ (by show (60 - (x4 + 1).toInt).toNat < (60 - x4.toInt).toNat; rw [ex]; omega)
          exact zk_ite (fun hz => nx7 0 (by rw [eC, if_pos hz, hx]; exact Int32.add_zero _)) (fun hz => nx7 1 (by rw [eC, if_neg hz, hx]))
      exact z2_kk C D (fun r s r' t q q' => ⟨q.trans q'.1.symm, q'.2⟩)
    · refine th0 (r := -1000000001) h ?_ ?_
      · unfold f_X6_shaded
        rw [c_isStall1 (by rw [es]; exact ca), zbd_s, if_neg one_ne, c_within0 σ cb]
        rfl
      · unfold f_X7_shaded
        rw [r_isStall1 ca, zbd_s, if_neg one_ne, r_isIn0 τ cb]
        rfl
  · refine th0 (r := -1000000001) h ?_ ?_
    · unfold f_X6_shaded
      rw [c_isStall0 (by rw [es]; exact n0.1) (by rw [es]; exact ca)]
      rfl
    · unfold f_X7_shaded
      rw [r_isStall0 n0.1 ca]
      rfl
