/-! copy, lay, reads -/
theorem lgs (a b c : Int32) : (0 < lg_cmp (a.toInt64 + b.toInt64) c.toInt64) ↔ c.toInt < a.toInt + b.toInt := by
  have h1 := Int32.toInt_lt a
  have h2 := Int32.toInt_lt b
  have h3 := Int32.le_toInt a
  have h4 := Int32.le_toInt b
  rw [lg_cmp_gt, Int64.lt_iff_toInt_lt, Int64.toInt_add, zI64, zI64, zI64, Int.bmod_eq_of_le (by omega) (by omega)]
theorem c_hasPlaces {q : Nat} {a b : Int32} {σ : zg_S} : (f_X2_hasPlaces q a b σ = some (1, σ) ∧ 0 ≤ a.toInt ∧ 0 ≤ b.toInt ∧ a.toInt + b.toInt ≤ (σ q 1).toInt) ∨ (f_X2_hasPlaces q a b σ = some (0, σ) ∧ ¬ (0 ≤ a.toInt ∧ 0 ≤ b.toInt ∧ a.toInt + b.toInt ≤ (σ q 1).toInt)) := by
  have e0 := zt_0
  unfold f_X2_hasPlaces
  by_cases c1 : a < 0
  · rw [if_pos c1]
    have := zlt c1
    exact Or.inr ⟨rfl, by omega⟩
  rw [if_neg c1]
  have g1 := znlt c1
  by_cases c2 : b < 0
  · rw [if_pos c2]
    have := zlt c2
    exact Or.inr ⟨rfl, by omega⟩
  rw [if_neg c2]
  have g2 := znlt c2
  by_cases c3 : 0 < lg_cmp (a.toInt64 + b.toInt64) (σ q 1).toInt64
  · rw [if_pos c3]
    have := (lgs a b (σ q 1)).mp c3
    exact Or.inr ⟨rfl, by omega⟩
  · rw [if_neg c3]
    have g3 : ¬ (σ q 1).toInt < a.toInt + b.toInt := fun z => c3 ((lgs a b (σ q 1)).mpr z)
    exact Or.inl ⟨rfl, by omega, by omega, by omega⟩
theorem r_copy (a1 a2 a3 a4 a5 : Int32) (n1 n3 x y m : Nat) (h1 : a1.toInt = n1) (h2 : a2.toInt = x) (h3 : a3.toInt = n3) (h4 : a4.toInt = y) (h5 : a5.toInt = m) (b1 : n1 < 4) (b3 : n3 < 4) (c1 : x + m ≤ 24) (c3 : y + m ≤ 24) (τ : zg_S) : zk (L_X7_copy_113 a1 a2 a3 a4 a5 zfu 0 τ) (fun r t => r = a5 ∧ (∀ p, p ≠ 6 → p ≠ 16 → t p = τ p) ∧ ∀ j, t 6 j = if 24 * n3 + y ≤ j ∧ j < 24 * n3 + y + m then τ 6 (24 * n1 + x + (j - (24 * n3 + y))) else τ 6 j) := by
  have e0 := zt_0
  have e1 := zt_1
  have e24 := zt_24
  unfold L_X7_copy_113
  refine zl_I (fun (u : Int32) (s : zg_S) => ∃ i : Nat, u.toInt = i ∧ i ≤ m ∧ (∀ p, p ≠ 16 → s p = τ p) ∧ ∀ k, k < i → s 16 k = τ 6 (24 * n1 + x + k)) (fun (u : Int32) (_ : zg_S) => (24 - u.toInt).toNat) ?_ zfu _ _ ⟨0, e0, by omega, fun _ _ => rfl, fun k hk => by omega⟩ (by unfold zfu; omega)
  intro rec u s hI ih
  obtain ⟨i, hi, hi2, hp, hc⟩ := hI
  unfold B_X7_copy_113
  refine zk_ite (fun hle => ?_) (fun hlt => ?_)
  · have gl := zle hle
    unfold L_X7_copy_150
    refine zl_I (fun (u : Int32) (t : zg_S) => ∃ k : Nat, u.toInt = k ∧ k ≤ m ∧ (∀ p, p ≠ 6 → t p = s p) ∧ ∀ j, t 6 j = if 24 * n3 + y ≤ j ∧ j < 24 * n3 + y + k then τ 6 (24 * n1 + x + (j - (24 * n3 + y))) else τ 6 j) (fun (u : Int32) (_ : zg_S) => (24 - u.toInt).toNat) ?_ zfu _ _ ⟨0, e0, by omega, fun _ _ => rfl, fun j => by rw [if_neg (by omega), hp 6 (by decide)]⟩ (by unfold zfu; omega)
    intro rec2 u t hI ih2
    obtain ⟨k, hk, hk2, hp2, hv⟩ := hI
    unfold B_X7_copy_150
    refine zk_ite (fun hle => ?_) (fun hlt => ?_)
    · have := zle hle
      refine zk_some ⟨rfl, fun p p6 p16 => (hp2 p p6).trans (hp p p16), fun j => ?_⟩
      rw [hv j, show k = m by omega]
    · have gk := znle hlt
      have nk := ztn (i := u) (by omega)
      refine zk_in (zin_mk (by omega) (by omega)) (zk_let (fun v ev => ?_))
      have pi := zTadd (zTadd (zTmul (zTl zt_24) (zTs a3) (by omega) (by omega)) (zTs a4) (by omega) (by omega)) (zTs u) (by omega) (by omega)
      have ii := zTn pi (show (24 * a3.toInt + a4.toInt + u.toInt : Int) = ((24 * n3 + y + k : Nat) : Int) by omega)
      refine zk_in (zin_mkT pi (by omega) (by omega)) (zk_let (fun t2 q2 => ?_))
      rw [ii] at q2
      rw [show u.toNatClampNeg = k by omega, hp2 16 (by decide), hc k (by omega)] at ev
      have ex := zTe (zTadd (zTs u) (zTl zt_1) (by omega) (by omega))
      refine ih2 (u + 1) t2 ⟨k + 1, by rw [ex, hk]; rfl, by omega, fun p hp6 => by rw [q2]; exact (zg_row_ne hp6).trans (hp2 p hp6), fun j => ?_⟩ (by show (24 - (u + 1).toInt).toNat < (24 - u.toInt).toNat; rw [ex]; omega)
      rw [q2]
      by_cases e : j = 24 * n3 + y + k
      · subst e
        rw [if_pos (by omega), show 24 * n3 + y + k - (24 * n3 + y) = k by omega, ← ev]
        exact zgot
      · refine (zkeepn e).trans ((hv j).trans ?_)
        by_cases c : 24 * n3 + y ≤ j ∧ j < 24 * n3 + y + k
        · rw [if_pos c, if_pos (by omega)]
        · rw [if_neg c, if_neg (by omega)]
  · have gl := znle hlt
    have ni := ztn (i := u) (by omega)
    have pi := zTadd (zTadd (zTmul (zTl zt_24) (zTs a1) (by omega) (by omega)) (zTs a2) (by omega) (by omega)) (zTs u) (by omega) (by omega)
    have ii := zTn pi (show (24 * a1.toInt + a2.toInt + u.toInt : Int) = ((24 * n1 + x + i : Nat) : Int) by omega)
    refine zk_in (zin_mkT pi (by omega) (by omega)) (zk_let (fun v ev => ?_))
    rw [ii, hp 6 (by decide)] at ev
    refine zk_in (zin_mk (by omega) (by omega)) (zk_let (fun t2 q2 => ?_))
    rw [show u.toNatClampNeg = i by omega] at q2
    have ex := zTe (zTadd (zTs u) (zTl zt_1) (by omega) (by omega))
    refine ih (u + 1) t2 ⟨i + 1, by rw [ex, hi]; rfl, by omega, fun p hp6 => by rw [q2]; exact (zg_row_ne hp6).trans (hp p hp6), fun k hk => ?_⟩ (by show (24 - (u + 1).toInt).toNat < (24 - u.toInt).toNat; rw [ex]; omega)
    rw [q2]
    by_cases e : k = i
    · subst e
      exact zgot.trans ev
    · exact (zkeepn e).trans (hc k (by omega))
theorem v_copy {σ τ : zg_S} (h : RR σ τ) (hM : IMc τ) (a1 a2 a3 a4 a5 : Int32) : z2 (f_X6_copy a1 a2 a3 a4 a5 σ) (f_X7_copy a1 a2 a3 a4 a5 τ) SM := by
  have e0 := zt_0
  unfold f_X6_copy f_X7_copy
  refine z2_sheet (z2_pL rfl (z2_pR rfl (z2_some (SM.rf h)))) (fun n1 hn1 b1 en1 zi1 => z2_nL one_ne (z2_nR one_ne ?_))
  refine z2_sheet (z2_pL rfl (z2_pR rfl (z2_some (SM.rf h)))) (fun n3 hn3 b3 en3 zi3 => z2_nL one_ne (z2_nR one_ne ?_))
  refine z2_pL zi1 (z2_pL zi3 (z2_pR zi1 ?_))
  rw [en1, en3]
  have f1 : 0 ≤ (τ 5 n1).toInt ∧ (τ 5 n1).toInt ≤ 24 := hM 5 n1
  have f3 : 0 ≤ (τ 5 n3).toInt ∧ (τ 5 n3).toInt ≤ 24 := hM 5 n3
  obtain ⟨x1, y1, z1, w1⟩ := h.2.2.2.2.1 n1 b1
  obtain ⟨x3, y3, z3, w3⟩ := h.2.2.2.2.1 n3 b3
  rcases c_missing h b1 with ⟨m1, e1⟩ | ⟨m1, m1', e1⟩
  · exact z2_eL e1 (z2_nL one_ne (z2_pR m1 (z2_some (SM.rf h))))
  refine z2_eL e1 (z2_pL rfl (z2_nR m1 (z2_pR zi3 ?_)))
  rcases c_missing h b3 with ⟨m3, e3⟩ | ⟨m3, m3', e3⟩
  · refine z2_eL e3 (z2_nL one_ne (z2_nR (fun z => ?_) (z2_some (SM.rf h))))
    have := zle z
    have := zlt m3
    omega
  refine z2_eL e3 (z2_pL rfl (z2_pR m3' ?_))
  rw [x1, x3]
  refine z2_iL (fun hs => z2_pR hs ?_) (fun hs => z2_nR hs (z2_some (SM.rf h)))
  -- the reference's way to refuse
  have bad : ¬ ((0 ≤ a2.toInt ∧ 0 ≤ a5.toInt ∧ a2.toInt + a5.toInt ≤ (τ 5 n1).toInt) ∧ (0 ≤ a4.toInt ∧ 0 ≤ a5.toInt ∧ a4.toInt + a5.toInt ≤ (τ 5 n3).toInt)) → z2 (some ((-1000000013 : Int32), σ)) (if a2 < 0 then some (-1000000013, τ) else (if a4 < 0 then some (-1000000013, τ) else (if a5 < 0 then some (-1000000013, τ) else (if 0 < (lg_cmp ((Int32.toInt64 a2) + (Int32.toInt64 a5)) (Int32.toInt64 (τ 5 n1))) then some (-1000000013, τ) else (if (lg_cmp ((Int32.toInt64 a4) + (Int32.toInt64 a5)) (Int32.toInt64 (τ 5 n3))) ≤ 0 then L_X7_copy_113 a1 a2 a3 a4 a5 zfu 0 τ else some (-1000000013, τ)))))) SM := fun hb => by
    refine z2_iR (fun _ => z2_some (SM.rf h)) (fun c2 => ?_)
    refine z2_iR (fun _ => z2_some (SM.rf h)) (fun c4 => ?_)
    refine z2_iR (fun _ => z2_some (SM.rf h)) (fun c5 => ?_)
    refine z2_iR (fun _ => z2_some (SM.rf h)) (fun c6 => ?_)
    refine z2_iR (fun c7 => ?_) (fun _ => z2_some (SM.rf h))
    have g2 := znlt c2
    have g4 := znlt c4
    have g5 := znlt c5
    have g6 : ¬ (τ 5 n1).toInt < a2.toInt + a5.toInt := fun z => c6 ((lgs _ _ _).mpr z)
    have g7 : ¬ (τ 5 n3).toInt < a4.toInt + a5.toInt := fun z => by
      have := zlt ((lgs a4 a5 (τ 5 n3)).mpr z)
      have := zle c7
      omega
    exact absurd ⟨⟨by omega, by omega, by omega⟩, ⟨by omega, by omega, by omega⟩⟩ hb
  have p1 := c_hasPlaces (q := 53 + 2 * n1) (a := a2) (b := a5) (σ := σ)
  have p3 := c_hasPlaces (q := 53 + 2 * n3) (a := a4) (b := a5) (σ := σ)
  rw [y1] at p1
  rw [y3] at p3
  rcases p1 with ⟨q1, r1⟩ | ⟨q1, r1⟩
  · refine z2_eL q1 (z2_nL one_ne ?_)
    rcases p3 with ⟨q3, r3⟩ | ⟨q3, r3⟩
    · refine z2_eL q3 (z2_nL one_ne ?_)
      have n2 := ztn r1.1
      have n4 := ztn r3.1
      have n5 := ztn r1.2.1
      refine z2_pL ⟨nlt_i (by omega), nlt_i (by omega), nlt_i (by omega), by omega, by omega⟩ (z2_lL (fun s qs => ?_))
      refine z2_nR (nlt_i (by omega)) (z2_nR (nlt_i (by omega)) (z2_nR (nlt_i (by omega)) ?_))
      refine z2_nR (fun z => by have := (lgs _ _ _).mp z; omega) ?_
      refine z2_pR (Int32.le_iff_toInt_le.mpr ?_) ?_
      · refine Int.not_lt.mp (fun z => ?_)
        have := (lgs a4 a5 (τ 5 n3)).mp (lt_i (by omega))
        omega
      · obtain ⟨r', t, et, t1, t2, t3⟩ := r_copy a1 a2 a3 a4 a5 n1 n3 a2.toNatClampNeg a4.toNatClampNeg a5.toNatClampNeg hn1 (by omega) hn3 (by omega) (by omega) b1 b3 (by omega) (by omega) τ
        refine ⟨a5, s, r', t, rfl, et, t1.symm, h.r5 (fun p k hp => ?_) (fun p k hp => by rw [t2 p (by omega) (by omega)]) (fun k hk => ?_)⟩
        · rw [qs]
          exact congrFun (zg_row_ne (by omega)) k
        · rw [t2 4 (by decide) (by decide), t2 5 (by decide) (by decide)]
          obtain ⟨x, y, z, w⟩ := h.2.2.2.2.1 k hk
          have so : ∀ r, r ≠ 53 + 2 * n3 + 1 → s r = σ r := fun r hr => by rw [qs]; exact zg_row_ne hr
          refine ⟨by rw [so _ (by omega)]; exact x, by rw [so _ (by omega)]; exact y, fun i hi => ?_, w⟩
          rw [t3]
          by_cases e : k = n3
          · subst e
            rw [qs, zg_row_eq]
            by_cases c : a4.toNatClampNeg ≤ i ∧ i < a4.toNatClampNeg + a5.toNatClampNeg
            · rw [pk_cpy_in c.1 c.2, if_pos (by omega), z1 _ (by omega)]
              congr 1
              omega
            · rw [pk_cpy_out (by omega), if_neg (by omega)]
              exact z i hi
          · rw [so _ (by omega), if_neg (by omega)]
            exact z i hi
    · refine z2_eL q3 (z2_pL rfl (bad (fun z => r3 z.2)))
  · exact z2_eL q1 (z2_pL rfl (bad (fun z => r1 z.1)))
