/-! sheets -/
theorem c_become (q : Nat) (a b : Int32) (σ : zg_S) : zk (f_X2_become q a b σ) (fun _ s => s q 0 = a ∧ s q 1 = sHeld b 0 24 ∧ ∀ i, i < 24 → s (q + 1) i = 0) := by
  have e0 := zt_0
  have e1 := zt_1
  have e24 := zt_24
  unfold f_X2_become
  refine zk_let (fun s1 q1 => zk_e (c_held _ _ _ _) (zk_let (fun s2 q2 => ?_)))
  have a0 : s2 q 0 = a := by rw [q2]; refine (zkeepf rfl).trans ?_; rw [q1]; exact zgot
  have a1 : s2 q 1 = sHeld b 0 24 := by rw [q2]; exact zgot
  unfold L_X2_become_18
  refine zl_I (fun (x : Int32) (s : zg_S) => ∃ i : Nat, x.toInt = i ∧ i ≤ 24 ∧ s q = s2 q ∧ ∀ j, j < i → s (q + 1) j = 0) (fun (x : Int32) (_ : zg_S) => (24 - x.toInt).toNat) ?_ zfu _ _ ⟨0, e0, by omega, rfl, fun j hj => by omega⟩ (by unfold zfu; omega)
  intro rec x s hI ih
  obtain ⟨i, hi, hi2, hq, hz⟩ := hI
  unfold B_X2_become_18
  refine zk_ite (fun hle => ?_) (fun hlt => ?_)
  · have := zle hle
    exact zk_some ⟨by rw [hq]; exact a0, by rw [hq]; exact a1, fun j hj => hz j (by omega)⟩
  · have gl := znle hlt
    have ni := ztn (i := x) (by omega)
    refine zk_in (zin_mk (by omega) (by omega)) (zk_let (fun t p => ?_))
    rw [show x.toNatClampNeg = i by omega] at p
    have ex := zTe (zTadd (zTs x) (zTl zt_1) (by omega) (by omega))
    refine ih (x + 1) t ⟨i + 1, by rw [ex, hi]; rfl, by omega, by rw [p]; exact (zg_row_ne (by omega)).trans hq, fun j hj => ?_⟩ (by show (24 - (x + 1).toInt).toNat < (24 - x.toInt).toNat; rw [ex]; omega)
    rw [p]
    by_cases e : j = i
    · subst e
      exact zgot
    · exact (zkeepn e).trans (hz j (by omega))
/-- row 6 of the reference, from 24 n on: zeroed -/
theorem r_zero (a1 a2 a3 : Int32) (n : Nat) (hn : a1.toInt = n) (h4 : n < 4) (τ : zg_S) : zk (L_X7_sheet_69 a1 a2 a3 zfu 0 τ) (fun r t => r = τ 5 n ∧ (∀ p, p ≠ 6 → t p = τ p) ∧ (∀ i, i < 24 → t 6 (24 * n + i) = 0) ∧ ∀ j, (j < 24 * n ∨ 24 * n + 24 ≤ j) → t 6 j = τ 6 j) := by
  have e0 := zt_0
  have e1 := zt_1
  have e24 := zt_24
  have en : a1.toNatClampNeg = n := zTn (zTl hn) rfl
  unfold L_X7_sheet_69
  refine zl_I (fun (x : Int32) (s : zg_S) => ∃ i : Nat, x.toInt = i ∧ i ≤ 24 ∧ (∀ p, p ≠ 6 → s p = τ p) ∧ (∀ j, j < i → s 6 (24 * n + j) = 0) ∧ ∀ j, (j < 24 * n ∨ 24 * n + 24 ≤ j) → s 6 j = τ 6 j) (fun (x : Int32) (_ : zg_S) => (24 - x.toInt).toNat) ?_ zfu _ _ ⟨0, e0, by omega, fun _ _ => rfl, fun j hj => by omega, fun _ _ => rfl⟩ (by unfold zfu; omega)
  intro rec x s hI ih
  obtain ⟨i, hi, hi2, hp, hz, ho⟩ := hI
  unfold B_X7_sheet_69
  refine zk_ite (fun hle => ?_) (fun hlt => ?_)
  · have := zle hle
    refine zk_in (zin_mk (by omega) (by omega)) (zk_some ⟨?_, hp, fun j hj => hz j (by omega), ho⟩)
    rw [en, hp 5 (by decide)]
  · have gl := znle hlt
    have pi := zTadd (zTmul (zTl zt_24) (zTs a1) (by omega) (by omega)) (zTs x) (by omega) (by omega)
    have ii := zTn pi (show (24 * a1.toInt + x.toInt : Int) = ((24 * n + i : Nat) : Int) by omega)
    refine zk_in (zin_mkT pi (by omega) (by omega)) (zk_let (fun t p => ?_))
    rw [ii] at p
    have ex := zTe (zTadd (zTs x) (zTl zt_1) (by omega) (by omega))
    refine ih (x + 1) t ⟨i + 1, by rw [ex, hi]; rfl, by omega, fun r hr => by rw [p]; exact (zg_row_ne hr).trans (hp r hr), fun j hj => ?_, fun j hj => ?_⟩ (by show (24 - (x + 1).toInt).toNat < (24 - x.toInt).toNat; rw [ex]; omega)
    · rw [p]
      by_cases e : j = i
      · subst e
        exact zgot
      · exact (zkeepn (by omega)).trans (hz j (by omega))
    · rw [p]
      exact (zkeepn (by omega)).trans (ho j hj)
theorem v_sheet {σ τ : zg_S} (h : RR σ τ) (a b c : Int32) : z2 (f_X6_sheet a b c σ) (f_X7_sheet a b c τ) SM := by
  have e0 := zt_0
  have e1 := zt_1
  have em := zt_m1
  have e24 := zt_24
  unfold f_X6_sheet f_X7_sheet
  refine z2_sheet (z2_pL rfl (z2_pR rfl (z2_some (SM.rf h)))) (fun n hn h4 en zi => z2_nL one_ne (z2_nR one_ne ?_))
  refine z2_within (fun _ => z2_pL rfl (z2_pR rfl (z2_some (SM.rf h)))) (fun b1 b2 => z2_nL one_ne (z2_nR one_ne ?_))
  rw [em] at b1
  rw [e1] at b2
  -- both sides write the sheet
  have main : ∀ (so ln : Int32) (o : Int32), so = b → (so = -1 ∨ so = 0 ∨ so = 1) → 0 ≤ ln.toInt → ln.toInt ≤ 24 → o = ln → z2 (zbd (f_X2_become (53 + 2 * n) so ln σ) (fun _ s => some (o, s))) (zbd (L_X7_sheet_69 a b c zfu 0 (zg_up (zg_up τ 4 n b) 5 n ln)) (fun r t => some (r, t))) SM := fun so ln o hso hs3 l0 l1 ho => by
    subst hso
    subst ho
    refine z2_cL (zk_w (c_become (53 + 2 * n) so o σ) (w_X2_become (53 + 2 * n) so o σ)) (fun _ s q => ?_)
    refine z2_cR (r_zero a so c n hn h4 _) (fun r t p => ?_)
    obtain ⟨⟨q0, q1, q2⟩, qw⟩ := q
    obtain ⟨p0, p1, p2, p3⟩ := p
    rw [sHeld_in l0 (by rw [e24]; exact l1)] at q1
    have x5 : ∀ k, t 5 k = if k = n then o else τ 5 k := fun k => by
      rw [p1 5 (by decide)]
      by_cases e : k = n
      · subst e; rw [if_pos rfl]; exact zgot
      · rw [if_neg e]; exact (zkeepn e).trans (congrFun (zup_ne rfl) k)
    have x4 : ∀ k, t 4 k = if k = n then so else τ 4 k := fun k => by
      rw [p1 4 (by decide)]
      refine (congrFun (zup_ne rfl) k).trans ?_
      by_cases e : k = n
      · subst e; rw [if_pos rfl]; exact zgot
      · rw [if_neg e]; exact zkeepn e
    refine z2_some ⟨?_, h.r5 (fun p k hp => qw p k (fun z => by unfold W_X2_become at z; omega)) (fun p k hp => ?_) (fun k hk => ?_)⟩
    · rw [p0]
      exact zgot.symm
    · rw [p1 p (by omega)]
      exact (congrFun (zg_row_ne (by omega)) k).trans (congrFun (zg_row_ne (by omega)) k)
    · rw [x4, x5]
      by_cases e : k = n
      · subst e
        rw [if_pos rfl, if_pos rfl]
        exact ⟨q0, q1, fun i hi => (q2 i hi).trans (p2 i hi).symm, hs3⟩
      · rw [if_neg e, if_neg e]
        obtain ⟨x, y, z, w⟩ := h.2.2.2.2.1 k hk
        refine ⟨(qw _ _ (fun z => by unfold W_X2_become at z; omega)).trans x, (qw _ _ (fun z => by unfold W_X2_become at z; omega)).trans y, fun i hi => ?_, w⟩
        rw [p3 _ (by omega)]
        exact (qw _ _ (fun z => by unfold W_X2_become at z; omega)).trans ((z i hi).trans (congrFun ((zg_row_ne (by decide)).trans (zg_row_ne (by decide))) _).symm)
  have mainR : ∀ (ln : Int32) (P : z2 (zbd (f_X2_become (53 + 2 * n) b ln σ) (fun _ s => some (ln, s))) (zbd (L_X7_sheet_69 a b c zfu 0 (zg_up (zg_up τ 4 n b) 5 n ln)) (fun r t => some (r, t))) SM), (if 0 ≤ b then c else 0) = ln → z2 (zbd (f_X2_become (53 + 2 * n) b ln σ) (fun _ s => some (ln, s))) (B_X7_sheet_44 a b c τ) SM := fun ln P hl => by
    obtain ⟨r, s, r', t, x1, x2, x3⟩ := P
    refine ⟨r, s, r', t, x1, ?_, x3⟩
    have x2' : L_X7_sheet_69 a b c zfu 0 (zg_up (zg_up τ 4 n b) 5 n ln) = some (r', t) := by
      obtain ⟨u, v, y1, y2⟩ := zBd x2
      rw [y1]
      exact y2
    unfold B_X7_sheet_44 B_X7_sheet_65
    rw [if_pos zi, en]
    show (if 0 ≤ b then (if zin a 4 = true then zlet (zg_up (zg_up τ 4 n b) 5 n c) (fun σ21 => L_X7_sheet_69 a b c zfu 0 σ21) else none) else (if zin a 4 = true then zlet (zg_up (zg_up τ 4 n b) 5 n 0) (fun σ21 => L_X7_sheet_69 a b c zfu 0 σ21) else none)) = some (r', t)
    rw [if_pos zi, if_pos zi]
    by_cases d : 0 ≤ b
    · rw [if_pos d] at hl ⊢
      subst hl
      exact x2'
    · rw [if_neg d] at hl ⊢
      subst hl
      exact x2'
  unfold B_X7_sheet_32
  rw [en]
  refine z2_iL (fun hb => ?_) (fun hb => ?_)
  · have hb' : b < 0 := by rw [hb]; decide
    refine z2_pL zi ?_
    refine z2_pR hb' (z2_pR hb' ?_)
    have hm := mainR 0 (main b 0 0 rfl (Or.inl hb) (by omega) (by omega) rfl) (if_neg (by rw [hb]; decide))
    obtain ⟨r, s, r', t, x1, x2, x3⟩ := hm
    exact ⟨r, s, r', t, by rw [← hb]; exact x1, x2, x3⟩
  · have g0 := zne hb
    have nb : ¬ b < 0 := nlt_i (by omega)
    have pb : 0 ≤ b := Int32.le_iff_toInt_le.mpr (by omega)
    have b3 : b = -1 ∨ b = 0 ∨ b = 1 := by
      have ii : ∀ x : Int32, b.toInt = x.toInt → b = x := fun x hx => Int32.toInt_inj.mp hx
      have c01 : b.toInt = 0 ∨ b.toInt = 1 := by omega
      rcases c01 with c | c
      · exact Or.inr (Or.inl (ii 0 (by omega)))
      · exact Or.inr (Or.inr (ii 1 (by omega)))
    refine z2_nR nb ?_
    refine z2_iL (fun hc => ?_) (fun hc => z2_nR hc (z2_some (SM.rf h)))
    refine z2_pR hc (z2_nR nb ?_)
    refine z2_iL (fun hd => ?_) (fun hd => z2_nR hd (z2_some (SM.rf h)))
    refine z2_pL zi (z2_pR hd ?_)
    have c1 := zle hc
    have c2 := zle hd
    exact mainR c (main b c c rfl b3 (by omega) (by omega) rfl) (if_pos pb)
theorem c_missing {σ τ : zg_S} (h : RR σ τ) {n : Nat} (hn : n < 4) : (τ 4 n < 0 ∧ f_X2_isMissing (53 + 2 * n) σ = some (1, σ)) ∨ (¬ τ 4 n < 0 ∧ 0 ≤ τ 4 n ∧ f_X2_isMissing (53 + 2 * n) σ = some (0, σ)) := by
  obtain ⟨x, _, _, w⟩ := h.2.2.2.2.1 n hn
  unfold f_X2_isMissing
  rw [x]
  rcases w with w | w | w
  · rw [w]; exact Or.inl ⟨by decide, rfl⟩
  · rw [w]; exact Or.inr ⟨by decide, by decide, rfl⟩
  · rw [w]; exact Or.inr ⟨by decide, by decide, rfl⟩
