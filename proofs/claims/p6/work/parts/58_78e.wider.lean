/-! wider -/
def gW (g : Nat → Int32) (v : Int32) : Nat → Int32 := upd (upd g 8 v) 7 (sHeld (g 7) 0 (12 - v))
theorem gW_C {g : Nat → Int32} {v : Int32} (h : gC g) : gC (gW g v) := gC_un (gC_un h (by decide)) (by decide)
theorem gW_st {g : Nat → Int32} {v : Int32} : STx g (gW g v) := (STx.rf.up (by decide) (by decide)).up (by decide) (by decide)
theorem gW_2 {g : Nat → Int32} {v : Int32} : gW g v 2 = g 2 := (pk_un (by decide)).trans (pk_un (by decide))
/-- the least width that is enough -/
def wA (V : Int32 → Int32) (w r : Int32) : Prop := (r = -1000000005 ∧ ∀ v : Int32, 1 ≤ v.toInt → v.toInt ≤ 6 → w < V v) ∨ (1 ≤ r.toInt ∧ r.toInt ≤ 6 ∧ ¬ w < V r ∧ ∀ v : Int32, 1 ≤ v.toInt → v.toInt < r.toInt → w < V v)
theorem wA_u {V : Int32 → Int32} {w r r' : Int32} (h : wA V w r) (h' : wA V w r') : r = r' := by
  rcases h with ⟨a, b⟩ | ⟨a1, a2, a3, a4⟩
  · rcases h' with ⟨c, d⟩ | ⟨c1, c2, c3, c4⟩
    · rw [a, c]
    · exact absurd (b _ c1 c2) c3
  · rcases h' with ⟨c, d⟩ | ⟨c1, c2, c3, c4⟩
    · exact absurd (d _ a1 a2) a3
    · refine Int32.toInt_inj.mp ?_
      by_cases x : r.toInt < r'.toInt
      · exact absurd (c4 _ a1 x) a3
      · by_cases y : r'.toInt < r.toInt
        · exact absurd (a4 _ c1 y) c3
        · omega
theorem c_widen {σ : zg_S} {p : Nat} {g : Nat → Int32} (h : EQB σ p g) (hT : TXR σ p g) (hn : (g 1).toInt ≤ 14) (hp : 53 ≤ p) (v : Int32) : zk (f_X0_widen p v σ) (fun _ s => (EQB s p (gW g v) ∧ TXR s p (gW g v)) ∧ wr (W_X0_widen p) σ s) := by
  refine zk_w ?_ (w_X0_widen p v σ)
  have hE : EQB (zg_up σ p 5 v) p (upd g 8 v) := h.up 8 (by decide) (by decide) rfl
  unfold f_X0_widen
  refine zk_let (fun s1 q1 => ?_)
  have h1 : EQB s1 p (upd g 8 v) := by rw [q1]; exact hE
  have e := c_lastFirst h1
  rw [pk_us] at e
  refine zk_e e (zk_e (c_held _ _ _ _) (zk_let (fun s2 q2 => zk_some ⟨?_, ?_⟩)))
  · rw [q2, show s1 p 6 = g 7 from (h1.f 7 (by decide)).trans (pk_un (by decide))]
    exact h1.up 7 (by decide) (by decide) rfl
  · rw [q2, q1]
    exact (txr_up (txr_up hT hn (by omega) hp) hn (by omega) hp).st gW_st
theorem v_wider {σ τ : zg_S} (h : RR σ τ) (a b : Int32) : z2 (f_X6_wider a b σ) (f_X7_wider a b τ) SM := by
  have e0 := zt_0
  have e1 := zt_1
  have em := zt_m1
  have e6 := zt_6
  have e60 := zt_60
  obtain ⟨hE, hT, o, hC, h99⟩ := id h.1
  by_cases ca : (0 : Int32).toInt ≤ a.toInt ∧ a.toInt ≤ (9999 : Int32).toInt
  · by_cases cb : (1 : Int32).toInt ≤ b.toInt ∧ b.toInt ≤ (60 : Int32).toInt
    · refine th h ?_ (w_X6_wider a b σ) (fun p k z => WT z)
      have wok : ∀ v : Int32, 1 ≤ v.toInt → v.toInt ≤ 6 → gOK (gW (τ 1) v) := fun v v1 v2 => o.wid ⟨v1, v2⟩
      have C : zk (L_X6_wider_26 a b zfu 1 σ) (fun r _ => wA (fun v => sGn (gW (τ 1) v) b.toInt.toNat 4) a r) := by
        unfold L_X6_wider_26
        refine zl_I (fun (x : Int32) (s : zg_S) => wr W_X6_thinkOn σ s ∧ 1 ≤ x.toInt ∧ x.toInt ≤ 7 ∧ ∀ v : Int32, 1 ≤ v.toInt → v.toInt < x.toInt → a < sGn (gW (τ 1) v) b.toInt.toNat 4) (fun (x : Int32) (_ : zg_S) => (7 - x.toInt).toNat) ?_ zfu _ _ ⟨wr.rf, by omega, by omega, fun v h1 h2 => by omega⟩ (by unfold zfu; omega)
        intro rec x s hI ih
        obtain ⟨hw, i1, i2, i3⟩ := hI
        unfold B_X6_wider_26
        refine zk_ite (fun hlt => ?_) (fun hle => ?_)
        · have := zlt hlt
          exact zk_some (Or.inl ⟨rfl, fun v v1 v2 => i3 v v1 (by omega)⟩)
        · have gl := znlt hle
          refine zk_call (c_over hE hT o hw) (fun _ t q => ?_)
          refine zk_call (c_widen q.1.1 q.1.2 o.2.2.1.2 (by decide) x) (fun _ t2 q2 => ?_)
          refine zk_call (c_think q2.1.1 q2.1.2 (wok x i1 (by omega)) (gW_C hC) b (by omega) (by rw [gW_2]; omega)) (fun _ t3 q3 => ?_)
          rw [show t3 165 11 = sGn (gW (τ 1) x) b.toInt.toNat 4 from q3.1.1.f 4 (by decide)]
          have hw3 : wr W_X6_thinkOn σ t3 := (q.2.tr q2.2 (fun p k z => by unfold W_X0_widen at z; unfold W_X6_thinkOn; omega)).tr q3.2 (fun _ _ z => z)
          refine zk_ite (fun hc => ?_) (fun hc => zk_some (Or.inr ⟨i1, by omega, hc, i3⟩))
          have ex := zTe (zTadd (zTs x) (zTl zt_1) (by omega) (by omega))
          refine ih (x + 1) t3 ⟨hw3, by rw [ex]; omega, by rw [ex]; omega, fun v v1 v2 => ?_⟩ (by show (7 - (x + 1).toInt).toNat < (7 - x.toInt).toNat; rw [ex]; omega)
          rw [ex] at v2
          by_cases c : v.toInt < x.toInt
          · exact i3 v v1 c
          · rw [show v = x from Int32.toInt_inj.mp (by omega)]
            exact hc
      unfold f_X6_wider f_X7_wider
      refine z2_eL (c_within1 σ ca) (z2_nL one_ne (z2_eL (c_within1 σ cb) (z2_nL one_ne ?_)))
      refine z2_eR (r_isIn1 τ ca) (z2_nR one_ne (z2_eR (r_isIn1 τ cb) (z2_nR one_ne ?_)))
      refine z2_cR (r_by' τ) (fun _ t p => ?_)
      have D : zk (L_X7_wider_37 a b zfu (-1) 6 t) (fun r u => wA (fun v => sGn (gW (τ 1) v) b.toInt.toNat 4) a r ∧ u 1 = τ 1 ∧ KB τ u) := by
        unfold L_X7_wider_37
        refine zl_II (fun (x3 x4 : Int32) (s : zg_S) => s 1 = τ 1 ∧ KB τ s ∧ 0 ≤ x4.toInt ∧ x4.toInt ≤ 6 ∧ ((x3 = -1 ∧ ∀ v : Int32, x4.toInt < v.toInt → v.toInt ≤ 6 → a < sGn (gW (τ 1) v) b.toInt.toNat 4) ∨ (x4.toInt < x3.toInt ∧ x3.toInt ≤ 6 ∧ ¬ a < sGn (gW (τ 1) x3) b.toInt.toNat 4 ∧ ∀ v : Int32, x4.toInt < v.toInt → v.toInt < x3.toInt → a < sGn (gW (τ 1) v) b.toInt.toNat 4))) (fun (_ x4 : Int32) (_ : zg_S) => x4.toInt.toNat) ?_ zfu _ _ _ ⟨p.1, p.2, by omega, by omega, Or.inl ⟨rfl, fun v h1 h2 => by omega⟩⟩ (by unfold zfu; omega)
        intro rec x3 x4 s hI ih
        obtain ⟨hs, kb, i1, i2, hx⟩ := hI
        unfold B_X7_wider_37
        refine zk_ite (fun hlt => ?_) (fun hle => ?_)
        · have gl := zlt hlt
          rcases hx with ⟨hx, hv⟩ | ⟨x1, x2, x5, x6⟩
          · have eo : f_X7_orNone x3 s = some (-1000000005, s) := by
              unfold f_X7_orNone
              rw [if_neg (by rw [hx]; decide)]
            exact zk_e eo (zk_some ⟨Or.inl ⟨rfl, fun v v1 v2 => hv v (by omega) v2⟩, hs, kb⟩)
          · have eo : f_X7_orNone x3 s = some (x3, s) := by
              unfold f_X7_orNone
              rw [if_pos (Int32.le_iff_toInt_le.mpr (by omega))]
            exact zk_e eo (zk_some ⟨Or.inr ⟨by omega, x2, x5, fun v v1 v2 => x6 v (by omega) v2⟩, hs, kb⟩)
        · have gl := znlt hle
          refine zk_let (fun t1 q1 => ?_)
          have d1 : t1 1 = upd (τ 1) 8 x4 := by rw [q1]; exact up_row hs
          have k1 : KB τ t1 := kb.w (W := fun p _ => p = 1) (fun p k hp => by rw [q1]; exact congrFun (zg_row_ne hp) k) (fun p k z => Or.inl z)
          have hh := r_holds d1 (by rw [pk_us]; exact ⟨by omega, i2⟩)
          rw [pk_us, pk_un (by decide)] at hh
          refine zk_e hh ?_
          have d2 : zg_up t1 1 7 (sHeld (τ 1 7) 0 (12 - x4)) 1 = gW (τ 1) x4 := up_row d1
          have k2 : KB τ (zg_up t1 1 7 (sHeld (τ 1 7) 0 (12 - x4))) := k1.w (W := fun p _ => p = 1) (fun p k hp => congrFun (zg_row_ne hp) k) (fun p k z => Or.inl z)
          generalize zg_up t1 1 7 (sHeld (τ 1 7) 0 (12 - x4)) = t2 at d2 k2 ⊢
          have ok := wok x4 (by omega) i2
          refine zk_call (r_many d2 ok (gW_C hC) (hT.tv.st gW_st) b (by omega) (by rw [gW_2]; omega)) (fun _ t3 p3 => ?_)
          obtain ⟨_, _, _, st, _⟩ := sGn_ok ok (gW_C hC) b.toInt.toNat (by rw [gW_2]; omega)
          have k3 := k2.w p3.2 (fun p k z => by unfold W_X7_goesOnMany at z; omega)
          rw [show t3 1 4 = sGn (gW (τ 1) x4) b.toInt.toNat 4 from congrFun p3.1 4]
          obtain ⟨w, hw, ex⟩ : ∃ w : Int32, w = x4 + (-1) ∧ w.toInt = x4.toInt - 1 := ⟨_, rfl, (zTe (zTadd (zTs x4) (zTl zt_m1) (by omega) (by omega))).trans (by omega)⟩
          have nx7 : ∀ y : Int32, ((y = -1 ∧ ∀ v : Int32, w.toInt < v.toInt → v.toInt ≤ 6 → a < sGn (gW (τ 1) v) b.toInt.toNat 4) ∨ (w.toInt < y.toInt ∧ y.toInt ≤ 6 ∧ ¬ a < sGn (gW (τ 1) y) b.toInt.toNat 4 ∧ ∀ v : Int32, w.toInt < v.toInt → v.toInt < y.toInt → a < sGn (gW (τ 1) v) b.toInt.toNat 4)) → zk (B_X7_wider_77 a b rec x4 y t3) (fun r u => wA (fun v => sGn (gW (τ 1) v) b.toInt.toNat 4) a r ∧ u 1 = τ 1 ∧ KB τ u) := fun y hy => by
            unfold B_X7_wider_77
            rw [← hw]
            refine zk_call (r_bk' k3 (fun k hk => by rw [p3.1]; exact (st.2 k hk).trans (gW_st.2 k hk))) (fun _ t4 p4 => ?_)
            exact ih y w t4 ⟨p4.1, p4.2, by omega, by omega, hy⟩ (by show w.toInt.toNat < x4.toInt.toNat; omega)
          refine zk_ite (fun hc => nx7 x3 ?_) (fun hc => nx7 x4 (Or.inr ⟨by omega, i2, hc, fun v v1 v2 => by omega⟩))
          rcases hx with ⟨hx, hv⟩ | ⟨x1, x2, x5, x6⟩
          · refine Or.inl ⟨hx, fun v v1 v2 => ?_⟩
            by_cases c : x4.toInt < v.toInt
            · exact hv v c v2
            · rw [show v = x4 from Int32.toInt_inj.mp (by omega)]
              exact hc
          · refine Or.inr ⟨by omega, x2, x5, fun v v1 v2 => ?_⟩
            by_cases c : x4.toInt < v.toInt
            · exact x6 v c v2
            · rw [show v = x4 from Int32.toInt_inj.mp (by omega)]
              exact hc
      exact z2_kk C D (fun r s r' t q q' => ⟨wA_u q q'.1, q'.2⟩)
    · refine th0 (r := -1000000001) h ?_ ?_
      · unfold f_X6_wider
        rw [c_within1 σ ca, zbd_s, if_neg one_ne, c_within0 σ cb]
        rfl
      · unfold f_X7_wider
        rw [r_isIn1 τ ca, zbd_s, if_neg one_ne, r_isIn0 τ cb]
        rfl
  · refine th0 (r := -1000000001) h ?_ ?_
    · unfold f_X6_wider
      rw [c_within0 σ ca]
      rfl
    · unfold f_X7_wider
      rw [r_isIn0 τ ca]
      rfl
