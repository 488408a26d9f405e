/-! lay -/
theorem RR.slot {σ s τ t : zg_S} {n : Nat} (h : RR σ τ) (hn : n < 5) (a : ∀ p k, ¬ (61 + 4 * n ≤ p ∧ p ≤ 64 + 4 * n) → s p k = σ p k) (b : ∀ p k, ¬ (7 ≤ p ∧ p ≤ 11) → t p k = τ p k) (c : ∀ p j, 7 ≤ p → p ≤ 10 → j ≠ n → t p j = τ p j) (d : ∀ j i, j ≠ n → i < 24 → t 11 (24 * j + i) = τ 11 (24 * j + i)) (e : R6j s t n) : RR s t := by
  refine h.r6 (fun p k hp => a p k (by omega)) b (fun j hj => ?_)
  by_cases x : j = n
  · subst x
    exact e
  · exact (h.2.2.2.2.2 j hj).k (fun q k h1 h2 => a q k (by omega)) (c 7 j (by decide) (by decide) x) (c 8 j (by decide) (by decide) x) (c 9 j (by decide) (by decide) x) (c 10 j (by decide) (by decide) x) (fun i hi => d j i x hi)
theorem c_sheet1 {a : Int32} {σ : zg_S} (c : 0 ≤ a.toInt ∧ a.toInt ≤ 3) : f_X6_isSheet a σ = some (1, σ) := by
  unfold f_X6_isSheet
  rw [c_within1 σ (by rw [zt_0, zt_3]; exact c)]
  rfl
theorem c_sheet0 {a : Int32} {σ : zg_S} (c : ¬ (0 ≤ a.toInt ∧ a.toInt ≤ 3)) : f_X6_isSheet a σ = some (0, σ) := by
  unfold f_X6_isSheet
  rw [c_within0 σ (by rw [zt_0, zt_3]; exact c)]
  rfl
theorem r_sheet1 {a : Int32} {τ : zg_S} (c : 0 ≤ a.toInt ∧ a.toInt ≤ 3) : f_X7_isSheet a τ = some (1, τ) := by
  unfold f_X7_isSheet
  rw [r_isIn1 τ (by rw [zt_0, zt_3]; exact c)]
  rfl
theorem r_sheet0 {a : Int32} {τ : zg_S} (c : ¬ (0 ≤ a.toInt ∧ a.toInt ≤ 3)) : f_X7_isSheet a τ = some (0, τ) := by
  unfold f_X7_isSheet
  rw [r_isIn0 τ (by rw [zt_0, zt_3]; exact c)]
  rfl
def lyO (τ : zg_S) (b c : Int32) : Prop := b = 0 ∨ b = 3 ∨ (b = 1 ∧ 0 ≤ c.toInt ∧ c.toInt < (τ 1 0).toInt) ∨ (b = 2 ∧ 0 ≤ c.toInt ∧ c.toInt ≤ 3)
theorem r_pre {τ : zg_S} (hN : 0 ≤ (τ 1 0).toInt) (a b c : Int32) : (lyO τ b c ∧ f_X7_lay a b c τ = B_X7_lay_39 a b c 1 τ) ∨ (¬ lyO τ b c ∧ f_X7_lay a b c τ = B_X7_lay_39 a b c 0 τ) := by
  unfold f_X7_lay B_X7_lay_22 B_X7_lay_34 B_X7_lay_38 lyO
  by_cases b0 : b = 0
  · rw [if_pos b0]
    exact Or.inl ⟨Or.inl b0, rfl⟩
  rw [if_neg b0]
  by_cases b3 : b = 3
  · rw [if_pos b3]
    exact Or.inl ⟨Or.inr (Or.inl b3), rfl⟩
  rw [if_neg b3]
  by_cases b1 : b = 1
  · rw [if_pos b1]
    have b2 : ¬ b = 2 := by rw [b1]; decide
    by_cases d : 0 ≤ c.toInt ∧ c.toInt < (τ 1 0).toInt
    · rw [r_isStall1 d, zbd_s, if_neg one_ne]
      exact Or.inl ⟨Or.inr (Or.inr (Or.inl ⟨b1, d⟩)), rfl⟩
    · rw [r_isStall0 hN d, zbd_s, if_pos rfl, if_neg b2]
      refine Or.inr ⟨fun z => ?_, rfl⟩
      rcases z with z | z | z | z
      · exact b0 z
      · exact b3 z
      · exact d z.2
      · exact b2 z.1
  rw [if_neg b1]
  by_cases b2 : b = 2
  · rw [if_pos b2]
    by_cases d : 0 ≤ c.toInt ∧ c.toInt ≤ 3
    · rw [r_sheet1 d, zbd_s, if_neg one_ne]
      exact Or.inl ⟨Or.inr (Or.inr (Or.inr ⟨b2, d⟩)), rfl⟩
    · rw [r_sheet0 d, zbd_s, if_pos rfl]
      refine Or.inr ⟨fun z => ?_, rfl⟩
      rcases z with z | z | z | z
      · exact b0 z
      · exact b3 z
      · exact b1 z.1
      · exact d z.2
  · rw [if_neg b2]
    refine Or.inr ⟨fun z => ?_, rfl⟩
    rcases z with z | z | z | z
    · exact b0 z
    · exact b3 z
    · exact b1 z.1
    · exact b2 z.1
theorem r_lays {a b c y : Int32} {n m : Nat} (hn : a.toInt = n) (h5 : n < 5) (hm : c.toInt = m) (h4 : m < 4) (τ : zg_S) : zk (L_X7_lay_150 a b c zfu y 0 τ) (fun r t => r = y ∧ (∀ p, p ≠ 11 → t p = τ p) ∧ (∀ i, i < 24 → t 11 (24 * n + i) = τ 6 (24 * m + i)) ∧ ∀ j i, j ≠ n → i < 24 → t 11 (24 * j + i) = τ 11 (24 * j + i)) := by
  have e0 := zt_0
  have e1 := zt_1
  have e24 := zt_24
  unfold L_X7_lay_150
  refine zl_II (fun (w x : Int32) (s : zg_S) => w = y ∧ ∃ i : Nat, x.toInt = i ∧ i ≤ 24 ∧ (∀ p, p ≠ 11 → s p = τ p) ∧ (∀ k, k < i → s 11 (24 * n + k) = τ 6 (24 * m + k)) ∧ ∀ j i, j ≠ n → i < 24 → s 11 (24 * j + i) = τ 11 (24 * j + i)) (fun (_ x : Int32) (_ : zg_S) => (24 - x.toInt).toNat) ?_ zfu _ _ _ ⟨rfl, 0, e0, by omega, fun _ _ => rfl, fun k hk => by omega, fun _ _ _ _ => rfl⟩ (by unfold zfu; omega)
  intro rec w x s hI ih
  obtain ⟨rfl, i, hi, hi2, hp, hv, ho⟩ := hI
  unfold B_X7_lay_150
  refine zk_ite (fun hle => ?_) (fun hlt => ?_)
  · have := zle hle
    have : i = 24 := by omega
    subst this
    exact zk_some ⟨rfl, hp, hv, ho⟩
  have gl := znle hlt
  have pi := zTadd (zTmul (zTl zt_24) (zTs c) (by omega) (by omega)) (zTs x) (by omega) (by omega)
  have ii := zTn pi (show (24 * c.toInt + x.toInt : Int) = ((24 * m + i : Nat) : Int) by omega)
  have pj := zTadd (zTmul (zTl zt_24) (zTs a) (by omega) (by omega)) (zTs x) (by omega) (by omega)
  have ij := zTn pj (show (24 * a.toInt + x.toInt : Int) = ((24 * n + i : Nat) : Int) by omega)
  refine zk_in (zin_mkT pi (by omega) (by omega)) (zk_let (fun v ev => zk_in (zin_mkT pj (by omega) (by omega)) (zk_let (fun s2 q2 => ?_))))
  rw [ii, hp 6 (by decide)] at ev
  rw [ij] at q2
  have ex := zTe (zTadd (zTs x) (zTl zt_1) (by omega) (by omega))
  refine ih w (x + 1) s2 ⟨rfl, i + 1, by rw [ex]; omega, by omega, fun p h11 => by rw [q2]; exact (zg_row_ne h11).trans (hp p h11), fun k hk => ?_, fun j k hj hk => ?_⟩ (by show (24 - (x + 1).toInt).toNat < (24 - x.toInt).toNat; rw [ex]; omega)
  · rw [q2]
    by_cases e : k = i
    · subst e
      exact zgot.trans ev
    · exact (zkeepn (by omega)).trans (hv k (by omega))
  · rw [q2]
    exact (zkeepn (by omega)).trans (ho j k hj hk)
theorem c_sheetOver (q0 q1 : Nat) (h1 : q0 ≠ q1) (h2 : q0 + 1 ≠ q1) (h3 : q0 ≠ q1 + 1) (σ : zg_S) : zk (f_X2_takeOver q0 q1 σ) (fun _ s => s q0 1 = σ q1 1 ∧ ∀ i, i < 24 → s (q0 + 1) i = σ (q1 + 1) i) := by
  unfold f_X2_takeOver
  refine zk_let (fun s1 e1 => zk_let (fun s2 e2 => zk_ite (fun _ => zk_let (fun s3 e3 => zk_some ⟨?_, fun i hi => ?_⟩)) (fun z => absurd (by decide) z)))
  · rw [e3, zg_row_ne (show q0 ≠ q0 + 1 by omega), e2]
    refine zgot.trans ?_
    rw [e1]
    exact congrFun (zg_row_ne (Ne.symm h1)) 1
  · rw [e3, zg_row_eq]
    have f : s2 (q1 + 1) = σ (q1 + 1) := by
      rw [e2]
      refine (zg_row_ne (Ne.symm h3)).trans ?_
      rw [e1]
      exact zg_row_ne (Ne.symm h3)
    rw [pk_cpy_in (show (0 : Int32).toNatClampNeg ≤ i from Nat.zero_le _) (show i < (0 : Int32).toNatClampNeg + (24 : Int32).toNatClampNeg from hi), f]
    congr 1
    show 0 + (i - 0) = i
    omega
theorem v_lay {σ τ : zg_S} (h : RR σ τ) (a b c : Int32) : z2 (f_X6_lay a b c σ) (f_X7_lay a b c τ) SM := by
  have e0 := zt_0
  have e1 := zt_1
  have e2 := zt_2
  have e3 := zt_3
  have o := h.1.2.2.1
  have n0 := o.1.1
  have es : σ 153 3 = τ 1 0 := h.f 0 (by decide)
  rcases r_pre n0.1 a b c with ⟨hO, hr⟩ | ⟨hO, hr⟩
  · rw [hr]
    suffices z2 (f_X6_lay a b c σ) (B_X7_lay_39 a b c 1 τ) (fun r s r' t => r = r' ∧ ((s = σ ∧ t = τ) ∨ ∃ n, a.toNatClampNeg = n ∧ n < 5 ∧ (∀ p k, ¬ (7 ≤ p ∧ p ≤ 11) → t p k = τ p k) ∧ (∀ p j, 7 ≤ p → p ≤ 10 → j ≠ n → t p j = τ p j) ∧ (∀ j i, j ≠ n → i < 24 → t 11 (24 * j + i) = τ 11 (24 * j + i)) ∧ R6j s t n)) by
      obtain ⟨r, s, r', t, q1, q2, q3, q4⟩ := this
      refine ⟨r, s, r', t, q1, q2, q3, ?_⟩
      rcases q4 with ⟨rfl, rfl⟩ | ⟨n, en, h5, t1, t2, t3, t4⟩
      · exact h
      · have hw := w_X6_lay a b c σ
        rw [q1] at hw
        exact h.slot h5 (fun p k hp => hw r s rfl p k (fun z => by unfold W_X6_lay at z; omega)) t1 t2 t3 t4
    unfold f_X6_lay B_X7_lay_39
    refine z2_slot (z2_pL rfl (z2_pR rfl (z2_some ⟨rfl, Or.inl ⟨rfl, rfl⟩⟩))) (fun n hn h5 en zi => z2_nL one_ne (z2_nR one_ne (z2_nR one_ne ?_)))
    have bw : (0 : Int32).toInt ≤ b.toInt ∧ b.toInt ≤ (3 : Int32).toInt := by
      rcases hO with z | z | z | z
      · rw [z]; decide
      · rw [z]; decide
      · rw [z.1]; decide
      · rw [z.1]; decide
    refine z2_eL (c_within1 σ bw) (z2_nL one_ne (z2_pL zi (z2_lL (fun y ey => ?_))))
    obtain ⟨x7, _⟩ := h.2.2.2.2.2 n h5
    rw [en] at ey
    rw [x7] at ey
    unfold B_X7_lay_74 B_X7_lay_109 B_X7_lay_129 B_X6_lay_128
    rw [en]
    have k7 : ∀ (b v w : Int32) (p j : Nat), 7 ≤ p → p ≤ 10 → j ≠ n → zg_up (zg_up (zg_up τ 7 n b) 8 n v) 9 n w p j = τ p j := fun b v w p j _ _ hj => by
      have u : ∀ (ρ : zg_S) (q : Nat) (x : Int32), zg_up ρ q n x p j = ρ p j := fun ρ q x => by
        by_cases e : p = q
        · subst e
          exact zkeepn hj
        · exact congrFun (zg_row_ne e) j
      rw [u, u, u]
    have k0 : ∀ (b v w : Int32) (p k : Nat), (p < 7 ∨ 9 < p) → zg_up (zg_up (zg_up τ 7 n b) 8 n v) 9 n w p k = τ p k := fun b v w p k hp => by
      rw [up_ne (by omega), up_ne (by omega), up_ne (by omega)]
    have g7 : ∀ (b v w : Int32), zg_up (zg_up (zg_up τ 7 n b) 8 n v) 9 n w 7 n = b := fun b v w => by
      rw [up_ne (by decide), up_ne (by decide)]
      exact zgot
    have g8 : ∀ (b v w : Int32), zg_up (zg_up (zg_up τ 7 n b) 8 n v) 9 n w 8 n = v := fun b v w => by
      rw [up_ne (by decide)]
      exact zgot
    have g9 : ∀ (b v w : Int32), zg_up (zg_up (zg_up τ 7 n b) 8 n v) 9 n w 9 n = w := fun b v w => zgot
    rcases hO with z | z | ⟨z, z1⟩ | ⟨z, z1⟩
    · subst z
      refine z2_nL (by decide) (z2_nL (by decide) (z2_nL (by decide) (z2_lL (fun s qs => ?_))))
      refine z2_nR (by decide) (z2_pR zi (z2_lR (fun t1 p1 => z2_nR (by decide) (z2_pR zi (z2_lR (fun t2 p2 => z2_nR (by decide) (z2_pR zi (z2_lR (fun t3 p3 => z2_nR (by decide) (z2_some ⟨ey, Or.inr ⟨n, rfl, h5, ?_⟩⟩))))))))))
      subst p1 p2 p3
      rw [qs]
      exact ⟨fun p k hp => k0 _ _ _ p k (by omega), k7 _ _ _, fun j i _ _ => k0 _ _ _ 11 _ (by omega), by rw [g7]; exact zgot, Or.inl (g7 _ _ _)⟩
    · subst z
      refine z2_nL (by decide) (z2_nL (by decide) (z2_pL rfl (z2_lL (fun s1 q1 => z2_lL (fun s qs => ?_)))))
      refine z2_nR (by decide) (z2_pR zi (z2_lR (fun t1 p1 => z2_nR (by decide) (z2_pR zi (z2_lR (fun t2 p2 => z2_nR (by decide) (z2_pR zi (z2_lR (fun t3 p3 => z2_nR (by decide) (z2_some ⟨ey, Or.inr ⟨n, rfl, h5, ?_⟩⟩))))))))))
      subst p1 p2 p3
      rw [qs, q1]
      exact ⟨fun p k hp => k0 _ _ _ p k (by omega), k7 _ _ _, fun j i _ _ => k0 _ _ _ 11 _ (by omega), by rw [g7]; exact zgot, Or.inr (Or.inr (Or.inr ⟨g7 _ _ _, by rw [g8]; exact (zkeepn (by decide)).trans zgot⟩))⟩
    · subst z
      obtain ⟨m, hm⟩ : ∃ m : Nat, c.toInt = m := ⟨c.toInt.toNat, by omega⟩
      have em : c.toNatClampNeg = m := zTn (zTl hm) rfl
      have sb := o.2.1 m (by omega)
      refine z2_pL rfl (z2_eL (c_isStall1 (by rw [es]; exact z1)) (z2_nL one_ne (z2_pL (zin_mk z1.1 (by omega)) ?_)))
      rw [em]
      refine z2_cL (c_stallOver (61 + 4 * n + 1) (154 + 2 + m) (by omega) σ) (fun _ s1 q1 => z2_lL (fun s qs => ?_))
      refine z2_nR (by decide) (z2_pR zi (z2_lR (fun t1 p1 => z2_pR rfl ?_)))
      refine z2_eR (r_of (g := τ 1) (k := m) (j := 0) (by rw [p1]; exact zg_row_ne (by decide)) hm (by omega) zt_0 (by decide)) (z2_pR zi (z2_lR (fun t2 p2 => z2_pR rfl ?_)))
      refine z2_eR (r_worth (g := τ 1) (n := m) (by rw [p2, p1]; exact (zg_row_ne (by decide)).trans (zg_row_ne (by decide))) hm (by omega) sb.2.2.2) (z2_pR zi (z2_lR (fun t3 p3 => z2_nR (by decide) (z2_some ⟨ey, Or.inr ⟨n, rfl, h5, ?_⟩⟩))))
      subst p1 p2 p3
      have r0 : ∀ j, j < 4 → s (61 + 4 * n + 1) j = τ 1 (11 + 4 * m + j) := fun j hj => by
        rw [qs, up_ne (by omega), q1.1 j hj]
        exact h.s m j (by omega) hj
      refine ⟨fun p k hp => k0 _ _ _ p k (by omega), k7 _ _ _, fun j i _ _ => k0 _ _ _ 11 _ (by omega), by rw [g7, qs]; exact zgot, Or.inr (Or.inl ⟨g7 _ _ _, ?_, ?_, ?_⟩)⟩
      · rw [g8]
        exact r0 0 (by decide)
      · rw [g9, r0 0 (by decide), r0 3 (by decide)]
        rfl
      · rw [g8]
        exact sb.1
    · subst z
      obtain ⟨m, hm⟩ : ∃ m : Nat, c.toInt = m := ⟨c.toInt.toNat, by omega⟩
      have em : c.toNatClampNeg = m := zTn (zTl hm) rfl
      have zc : zin c 4 = true := zin_mk z1.1 (by omega)
      refine z2_nL (by decide) (z2_pL rfl (z2_eL (c_sheet1 z1) (z2_nL one_ne (z2_pL zc ?_))))
      refine z2_pR rfl (z2_pR zc ?_)
      rw [em]
      rcases c_missing h (n := m) (by omega) with ⟨m1, w1⟩ | ⟨m1, m2, w1⟩
      · refine z2_eL w1 (z2_nL one_ne (z2_nR (fun z => ?_) (z2_some ⟨rfl, Or.inl ⟨rfl, rfl⟩⟩)))
        have := zle z
        have := zlt m1
        omega
      refine z2_eL w1 (z2_pL rfl (z2_pR m2 ?_))
      obtain ⟨_, y5, z5, _⟩ := h.2.2.2.2.1 m (by omega)
      refine z2_cL (c_sheetOver (61 + 4 * n + 2) (53 + 2 * m) (by omega) (by omega) (by omega) σ) (fun _ s1 q1 => z2_lL (fun s qs => ?_))
      refine z2_pR zi (z2_lR (fun t1 p1 => z2_nR (by decide) (z2_pR zi (z2_lR (fun t2 p2 => z2_nR (by decide) (z2_pR zi (z2_lR (fun t3 p3 => z2_pR rfl (z2_pR zc (z2_lR (fun v ev => z2_pR zi (z2_lR (fun t4 p4 => ?_)))))))))))))
      subst p1 p2 p3
      obtain ⟨r', t, et, u1, u2, u3, u4⟩ := r_lays (b := 2) (y := τ 7 n) hn h5 hm (by omega) t4
      refine ⟨_, s, r', t, rfl, et, ey.trans u1.symm, Or.inr ⟨n, rfl, h5, ?_⟩⟩
      have v5 : v = τ 5 m := by rw [ev]; exact k0 _ _ _ 5 m (by omega)
      have t4k : ∀ p j, (p ≠ 10 ∨ j ≠ n) → t4 p j = zg_up (zg_up (zg_up τ 7 n 2) 8 n c) 9 n 0 p j := fun p j hj => by
        rw [p4]
        by_cases e : p = 10
        · subst e
          exact zkeepn (by omega)
        · exact congrFun (zg_row_ne e) j
      refine ⟨fun p k hp => ?_, fun p j h1 h2 hj => ?_, fun j i hj hi => ?_, ?_, Or.inr (Or.inr (Or.inl ⟨?_, ?_, fun i hi => ?_⟩))⟩
      · rw [u2 p (by omega), t4k p k (by omega)]
        exact k0 _ _ _ p k (by omega)
      · rw [u2 p (by omega), t4k p j (by omega)]
        exact k7 _ _ _ p j h1 h2 hj
      · rw [u4 j i hj hi, t4k 11 _ (by omega)]
        exact k0 _ _ _ 11 _ (by omega)
      · rw [u2 7 (by decide), t4k 7 n (by omega), g7, qs]
        exact zgot
      · rw [u2 7 (by decide), t4k 7 n (by omega), g7]
      · rw [u2 10 (by decide), p4, qs, up_ne (by omega), q1.1, y5, ← v5]
        exact zgot.symm
      · rw [u3 i hi, t4k 6 _ (by omega), k0 _ _ _ 6 _ (by omega), qs, up_ne (by omega), q1.2 i hi]
        exact z5 i hi
  · rw [hr]
    unfold f_X6_lay B_X7_lay_39
    refine z2_slot (z2_pL rfl (z2_pR rfl (z2_some (SM.rf h)))) (fun n hn h5 en zi => z2_nL one_ne (z2_nR one_ne (z2_pR rfl ?_)))
    refine z2_mono (P := fun r s r' t => r = -1000000001 ∧ s = σ ∧ r' = -1000000001 ∧ t = τ) ?_ (fun r s r' t q => ⟨q.1.trans q.2.2.1.symm, by rw [q.2.1, q.2.2.2]; exact h⟩)
    by_cases bw : (0 : Int32).toInt ≤ b.toInt ∧ b.toInt ≤ (3 : Int32).toInt
    · refine z2_eL (c_within1 σ bw) (z2_nL one_ne (z2_pL zi (z2_lL (fun y ey => ?_))))
      refine z2_iL (fun b1 => ?_) (fun b1 => z2_iL (fun b2 => ?_) (fun b2 => z2_iL (fun b3 => ?_) (fun b3 => ?_)))
      · exact z2_eL (c_isStall0 (by rw [es]; exact n0.1) (by rw [es]; exact fun z => hO (Or.inr (Or.inr (Or.inl ⟨b1, z⟩))))) (z2_pL rfl (z2_some ⟨rfl, rfl, rfl, rfl⟩))
      · exact z2_eL (c_sheet0 (fun z => hO (Or.inr (Or.inr (Or.inr ⟨b2, z⟩))))) (z2_pL rfl (z2_some ⟨rfl, rfl, rfl, rfl⟩))
      · exact absurd (Or.inr (Or.inl b3)) hO
      · have n1 : ¬ b.toInt = 1 := fun z => b1 (Int32.toInt_inj.mp (by omega))
        have n2 : ¬ b.toInt = 2 := fun z => b2 (Int32.toInt_inj.mp (by omega))
        have n3 : ¬ b.toInt = 3 := fun z => b3 (Int32.toInt_inj.mp (by omega))
        exact absurd (Or.inl (Int32.toInt_inj.mp (by omega))) hO
    · exact z2_eL (c_within0 σ bw) (z2_pL rfl (z2_some ⟨rfl, rfl, rfl, rfl⟩))
