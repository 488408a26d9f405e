/-! texts worked out -/
def sNo (key v c : Int32) : Prop := (key = 0 ∧ ((v = 104 ∧ c = -1) ∨ (v = 103 ∧ c = -2) ∨ (v = 112 ∧ c = -3))) ∨ (key = 1 ∧ ((v = 99 ∧ c = -1) ∨ (v = 116 ∧ c = -2))) ∨ (key = 2 ∧ ((v = 103 ∧ c = -1) ∨ (v = 115 ∧ c = -2)))
def sSg (v : Int32) : Prop := v = 38 ∨ v = 42 ∨ v = 43 ∨ v = 45 ∨ v = 47 ∨ v = 60 ∨ v = 61 ∨ v = 62 ∨ v = 124
/-- a step of the class, c, beside one of the reference, w and v -/
def SR (key c w v : Int32) : Prop := (w = 0 ∧ c = v ∧ 0 ≤ v.toInt) ∨ (w = 1 ∧ sNo key v c) ∨ (w = 2 ∧ v = 33 ∧ c = -1033) ∨ (w = 2 ∧ sSg v ∧ c = -1000 - v)
def TxE (σ : zg_S) (g : Nat → Int32) (t : Nat) : Prop := σ (11 + 3 * t) 0 = g (47 + 200 * t) ∧ σ (11 + 3 * t) 1 = g (47 + 200 * t + 1) ∧ σ (11 + 3 * t) 2 = g (47 + 200 * t + 2) ∧ (g (47 + 200 * t) = 0 ∨ g (47 + 200 * t) = 1 ∨ g (47 + 200 * t) = 2) ∧ ∀ i : Nat, (i : Int) < (g (47 + 200 * t + 2)).toInt → SR (g (47 + 200 * t)) (σ (11 + 3 * t + 1) i) (g (47 + 200 * t + 4 + 2 * i)) (g (47 + 200 * t + 4 + 2 * i + 1))
theorem c_joined (a b c : Int32) (σ : zg_S) : f_X5_joined a b c σ = some (sJn a b c, σ) := by
  unfold f_X5_joined sJn
  by_cases h1 : a = 38
  · rw [if_pos h1, if_pos h1]
    by_cases h : b = 0
    · rw [if_pos h, if_pos h]
    · rw [if_neg h, if_neg h]
      by_cases h' : c = 0
      · rw [if_pos h', if_pos h']
      · rw [if_neg h', if_neg h']
  rw [if_neg h1, if_neg h1]
  by_cases h2 : a = 42
  · rw [if_pos h2, if_pos h2]
  rw [if_neg h2, if_neg h2]
  by_cases h3 : a = 43
  · rw [if_pos h3, if_pos h3]
  rw [if_neg h3, if_neg h3]
  by_cases h4 : a = 45
  · rw [if_pos h4, if_pos h4]
  rw [if_neg h4, if_neg h4]
  by_cases h5 : a = 60
  · rw [if_pos h5, if_pos h5]
    by_cases h : c ≤ b
    · rw [if_pos h, if_pos h]
    · rw [if_neg h, if_neg h]
  rw [if_neg h5, if_neg h5]
  by_cases h6 : a = 61
  · rw [if_pos h6, if_pos h6]
    by_cases h : b = c
    · rw [if_pos h, if_pos h]
    · rw [if_neg h, if_neg h]
  rw [if_neg h6, if_neg h6]
  by_cases h7 : a = 62
  · rw [if_pos h7, if_pos h7]
    by_cases h : b ≤ c
    · rw [if_pos h, if_pos h]
    · rw [if_neg h, if_neg h]
  rw [if_neg h7, if_neg h7]
  by_cases h8 : a = 124
  · rw [if_pos h8, if_pos h8]
    by_cases h : b = 0
    · rw [if_pos h, if_pos h]
      by_cases h' : c = 0
      · rw [if_pos h', if_pos h']
      · rw [if_neg h', if_neg h']
    · rw [if_neg h, if_neg h]
  rw [if_neg h8, if_neg h8]
  by_cases h9 : c = 0
  · rw [if_pos h9, if_pos h9]
  · rw [if_neg h9, if_neg h9, if_neg h9]
theorem zdivm1 (x : Int32) : x / (-1) = -x := by
  refine Int32.toInt_inj.mp ?_
  rw [Int32.toInt_div, show (-1 : Int32).toInt = -1 by decide, Int.tdiv_neg, Int.tdiv_one, Int32.toInt_neg]
theorem r_joined (v x y : Int32) (σ : zg_S) (h : sSg v) : f_X7_joined v x y σ = some (sJn v x y, σ) := by
  rcases h with rfl | rfl | rfl | rfl | rfl | rfl | rfl | rfl | rfl
  · show (if x = 0 then some ((0 : Int32), σ) else (if y = 0 then some (0, σ) else some (1, σ))) = some (if x = 0 then 0 else (if y = 0 then 0 else 1), σ)
    by_cases h : x = 0
    · rw [if_pos h, if_pos h]
    · rw [if_neg h, if_neg h]
      by_cases h' : y = 0
      · rw [if_pos h', if_pos h']
      · rw [if_neg h', if_neg h']
  · rfl
  · rfl
  · rfl
  · show (if y = 0 then some ((0 : Int32), σ) else (if y = (-1) then some (-x, σ) else (if y = 0 then none else some (x / y, σ)))) = some (if y = 0 then 0 else x / y, σ)
    by_cases h : y = 0
    · rw [if_pos h, if_pos h]
    · rw [if_neg h, if_neg h, if_neg h]
      by_cases h' : y = -1
      · rw [if_pos h', h', zdivm1]
      · rw [if_neg h']
  · show (if y ≤ x then some ((0 : Int32), σ) else some (1, σ)) = some (if y ≤ x then 0 else 1, σ)
    by_cases h : y ≤ x
    · rw [if_pos h, if_pos h]
    · rw [if_neg h, if_neg h]
  · show (if x = y then some ((1 : Int32), σ) else some (0, σ)) = some (if x = y then 1 else 0, σ)
    by_cases h : x = y
    · rw [if_pos h, if_pos h]
    · rw [if_neg h, if_neg h]
  · show (if x ≤ y then some ((0 : Int32), σ) else some (1, σ)) = some (if x ≤ y then 0 else 1, σ)
    by_cases h : x ≤ y
    · rw [if_pos h, if_pos h]
    · rw [if_neg h, if_neg h]
  · show (if x = 0 then (if y = 0 then some ((0 : Int32), σ) else some (1, σ)) else some (1, σ)) = some (if x = 0 then (if y = 0 then 0 else 1) else 1, σ)
    by_cases h : x = 0
    · rw [if_pos h, if_pos h]
      by_cases h' : y = 0
      · rw [if_pos h', if_pos h']
      · rw [if_neg h', if_neg h']
    · rw [if_neg h, if_neg h]
/-- a pile's list, its top first -/
def onp (f : Nat → Int32) : List Int32 → Prop
  | [] => True
  | x :: r => f r.length = x ∧ onp f r
theorem onp_up {f : Nat → Int32} {i : Nat} {v : Int32} : ∀ (r : List Int32), r.length ≤ i → onp f r → onp (upd f i v) r := by
  intro r
  induction r with
  | nil => intro _ _; trivial
  | cons x r ih =>
    intro hl h
    have hl' : r.length + 1 ≤ i := hl
    exact ⟨(pk_un (by omega)).trans h.1, ih (by omega) h.2⟩
/-- what a step does to the list: one of three -/
theorem ev1_c {g : Nat → Int32} {b k n : Nat} {key x y z c : Int32} {st : List Int32} (hd : dep g b k (n + 1) st.length = some 1) (hr : SR key c (g (b + 2 * k)) (g (b + 2 * k + 1))) :
    (∃ u, ev1 key x y z (g (b + 2 * k)) (g (b + 2 * k + 1)) st = u :: st ∧ dep g b (k + 1) n (st.length + 1) = some 1 ∧ ((g (b + 2 * k) = 0 ∧ u = g (b + 2 * k + 1) ∧ c = u ∧ 0 ≤ c.toInt) ∨ (g (b + 2 * k) = 1 ∧ sNo key (g (b + 2 * k + 1)) c ∧ u = sNm key (g (b + 2 * k + 1)) x y z))) ∨
    (∃ u r, st = u :: r ∧ ev1 key x y z (g (b + 2 * k)) (g (b + 2 * k + 1)) st = (if u = 0 then 1 else 0) :: r ∧ dep g b (k + 1) n (r.length + 1) = some 1 ∧ g (b + 2 * k) = 2 ∧ g (b + 2 * k + 1) = 33 ∧ c = -1033) ∨
    (∃ v u r, st = v :: u :: r ∧ ev1 key x y z (g (b + 2 * k)) (g (b + 2 * k + 1)) st = sJn (g (b + 2 * k + 1)) u v :: r ∧ dep g b (k + 1) n (r.length + 1) = some 1 ∧ g (b + 2 * k) = 2 ∧ sSg (g (b + 2 * k + 1)) ∧ c = -1000 - g (b + 2 * k + 1)) := by
  rw [dep_s] at hd
  have e2 : ¬ (0 : Int32) = 2 := by decide
  have e1 : ¬ (1 : Int32) = 2 := by decide
  have e10 : ¬ (1 : Int32) = 0 := by decide
  rcases hr with ⟨hw, hc, h0⟩ | ⟨hw, hn⟩ | ⟨hw, hv, hc⟩ | ⟨hw, hv, hc⟩
  · left
    rw [hw, if_neg e2, if_pos (Or.inl rfl)] at hd
    refine ⟨g (b + 2 * k + 1), ?_, hd, Or.inl ⟨hw, rfl, hc, by rw [hc]; exact h0⟩⟩
    unfold ev1
    rw [hw, if_neg e2, if_pos rfl]
  · left
    rw [hw, if_neg e1] at hd
    refine ⟨sNm key (g (b + 2 * k + 1)) x y z, ?_, ?_, Or.inr ⟨hw, hn, rfl⟩⟩
    · unfold ev1
      rw [hw, if_neg e1, if_neg e10]
    · by_cases q : (1 : Int32) = 0 ∨ (0 ≤ (g (b + 2 * k + 1)).toInt ∧ (g (b + 2 * k + 1)).toInt < 128)
      · rw [if_pos q] at hd; exact hd
      · rw [if_neg q] at hd; cases hd
  · right; left
    rw [hw, if_pos rfl, if_pos hv] at hd
    match st, hd with
    | [], hd => exact absurd hd (by intro h; cases h)
    | u :: r, hd =>
      have hl : 1 ≤ (u :: r).length := Nat.succ_le_succ (Nat.zero_le _)
      rw [if_pos hl] at hd
      refine ⟨u, r, rfl, ?_, hd, hw, hv, hc⟩
      unfold ev1
      rw [hw, if_pos rfl, if_pos hv]
  · right; right
    have hv33 : ¬ g (b + 2 * k + 1) = 33 := fun e => by
      rw [e] at hv
      revert hv
      unfold sSg
      decide
    rw [hw, if_pos rfl, if_neg hv33] at hd
    match st, hd with
    | [], hd => exact absurd hd (by intro h; cases h)
    | [u], hd => exact absurd hd (by intro h; cases h)
    | v :: u :: r, hd =>
      have hl : 2 ≤ (v :: u :: r).length := Nat.succ_le_succ (Nat.succ_le_succ (Nat.zero_le _))
      rw [if_pos hl] at hd
      refine ⟨v, u, r, rfl, ?_, hd, hw, hv, hc⟩
      unfold ev1
      rw [hw, if_pos rfl, if_neg hv33]
theorem ev_end {g : Nat → Int32} {b k : Nat} {key x y z : Int32} {st : List Int32} (hd : dep g b k 0 st.length = some 1) : ∃ u, st = [u] ∧ (evs g b key x y z k 0 st).headD 0 = u := by
  have h : some st.length = some 1 := hd
  injection h with h
  match st, h with
  | [u], _ => exact ⟨u, rfl, rfl⟩
theorem SR.sg {v : Int32} (h : sSg v) : (-1000 - v).toInt ≤ -1000 ∧ ¬ (-1000 - v = -1033) ∧ -1000 - (-1000 - v) = v := by
  rcases h with rfl | rfl | rfl | rfl | rfl | rfl | rfl | rfl | rfl <;> decide
theorem c_workOut (t : Nat) (x y z : Int32) (σ : zg_S) (g : Nat → Int32) (hX : TxE σ g t) (hW : wfT g (47 + 200 * t)) (hn : (g (47 + 200 * t + 2)).toInt ≤ 96) : zk (f_X5_workOut (11 + 3 * t) x y z σ) (fun r _ => r = evT g t x y z) := by
  obtain ⟨x0, x1, x2, xk, xs⟩ := hX
  obtain ⟨w1, w2, w3⟩ := hW
  have e1 := zt_1
  have em := zt_m1
  have e0 := zt_0
  have e95 := zt_95
  have e96 := zt_96
  have em2 := zt_m2
  have e1k := zt_m1000
  have nn := ztn w1
  unfold f_X5_workOut L_X5_workOut_6
  refine zl_II (fun (x4 x5 : Int32) (s : zg_S) => ∃ (i m : Nat) (st : List Int32), x5.toInt = i ∧ x4.toInt + 1 = st.length ∧ (i : Int) + m = (g (47 + 200 * t + 2)).toInt ∧ st.length ≤ i ∧ (∀ p, p ≠ 11 + 3 * t + 2 → s p = σ p) ∧ onp (s (11 + 3 * t + 2)) st ∧ (evs g (47 + 200 * t + 4) (g (47 + 200 * t)) x y z i m st).headD 0 = evT g t x y z ∧ dep g (47 + 200 * t + 4) i m st.length = some 1) (fun (_ x5 : Int32) (_ : zg_S) => (97 - x5.toInt).toNat) ?_ zfu _ _ _ ⟨0, (g (47 + 200 * t + 2)).toNatClampNeg, [], e0, by rw [em]; rfl, by omega, Nat.le_refl _, fun _ _ => rfl, trivial, rfl, w3⟩ (by unfold zfu; omega)
  intro rec x4 x5 s hI ih
  obtain ⟨i, m, st, hi, hl, hm, hli, hp, ho, he, hd⟩ := hI
  have hi0 : 0 ≤ x5.toInt := by omega
  have ni := ztn hi0
  have hii : x5.toNatClampNeg = i := by omega
  unfold B_X5_workOut_6
  rw [hp (11 + 3 * t) (by omega), x2, hp (11 + 3 * t + 1) (by omega)]
  refine zk_ite (fun hle => ?_) (fun hlt => ?_)
  · have gl := zle hle
    have hm0 : m = 0 := by omega
    subst hm0
    obtain ⟨u, hu, hu2⟩ := ev_end (key := g (47 + 200 * t)) (x := x) (y := y) (z := z) hd
    subst hu
    have hx4 : x4.toInt = 0 := by have : x4.toInt + 1 = 1 := hl; omega
    have n4 := ztn (i := x4) (by omega)
    refine zk_ite (fun _ => ?_) (fun z => absurd (Int32.le_iff_toInt_le.mpr (by omega)) z)
    refine zk_in (zin_mk (by omega) (by omega)) ?_
    refine zk_some ?_
    rw [show x4.toNatClampNeg = 0 by omega, ← he, hu2]
    exact ho.1
  · have gl := znle hlt
    match m, hm, hd, he with
    | 0, hm, _, _ => exact absurd hm (by omega)
    | m + 1, hm, hd, he =>
      have hin : (i : Int) < (g (47 + 200 * t + 2)).toInt := by omega
      refine zk_in (zin_mk hi0 (by omega)) ?_
      rw [hii]
      have hr := xs i hin
      refine zk_let (fun c ec => ?_)
      rw [← ec] at hr
      have ex := zTe (zTadd (zTs x5) (zTl zt_1) (by omega) (by omega))
      have hx4 : -1 ≤ x4.toInt := by omega
      -- the next round
      have nxt : ∀ (x4' : Int32) (s' : zg_S) (st' : List Int32), x4'.toInt + 1 = st'.length → st'.length ≤ i + 1 → (∀ p, p ≠ 11 + 3 * t + 2 → s' p = σ p) → onp (s' (11 + 3 * t + 2)) st' → ev1 (g (47 + 200 * t)) x y z (g (47 + 200 * t + 4 + 2 * i)) (g (47 + 200 * t + 4 + 2 * i + 1)) st = st' → dep g (47 + 200 * t + 4) (i + 1) m st'.length = some 1 → zk (B_X5_workOut_169 (11 + 3 * t) x y z rec x4' x5 s') (fun r _ => r = evT g t x y z) := fun x4' s' st' h1 h2 h3 h4 h5 h6 => by
        unfold B_X5_workOut_169
        refine ih x4' (x5 + 1) s' ⟨i + 1, m, st', by rw [ex, hi]; rfl, h1, by omega, h2, h3, h4, ?_, h6⟩ (by show (97 - (x5 + 1).toInt).toNat < (97 - x5.toInt).toNat; rw [ex]; omega)
        rw [← he, ← h5]
        rfl
      have up2 : ∀ (j : Nat) (v : Int32) (p : Nat), p ≠ 11 + 3 * t + 2 → zg_up s (11 + 3 * t + 2) j v p = σ p := fun j v p h => (zg_row_ne h).trans (hp p h)
      have upr : ∀ (j : Nat) (v : Int32), zg_up s (11 + 3 * t + 2) j v (11 + 3 * t + 2) = upd (s (11 + 3 * t + 2)) j v := fun j v => zg_row_eq
      rcases ev1_c (x := x) (y := y) (z := z) hd hr with ⟨u, hv, hd', hc⟩ | ⟨u, r, hst, hv, hd', hw, h33, hc⟩ | ⟨v, u, r, hst, hv, hd', hw, hsg, hc⟩
      · -- push
        have ea := zTe (zTadd (zTs x4) (zTl zt_1) (by omega) (by omega))
        have na := ztn (i := x4 + 1) (by rw [ea]; omega)
        have psh : zk (B_X5_workOut_82 (11 + 3 * t) x y z rec (x4 + 1) x5 u (x4 + 1) s) (fun r _ => r = evT g t x y z) := by
          unfold B_X5_workOut_82
          refine zk_in (zin_mk (by rw [ea]; omega) (by rw [ea]; omega)) ?_
          refine zk_let (fun s' q => ?_)
          rw [show (x4 + 1).toNatClampNeg = st.length by omega] at q
          refine nxt (x4 + 1) s' (u :: st) (by rw [ea]; show x4.toInt + 1 + 1 = ((st.length + 1 : Nat) : Int); omega) (by show st.length + 1 ≤ i + 1; omega) (fun p h => by rw [q]; exact up2 _ _ p h) ?_ hv hd'
          rw [q, upr]
          exact ⟨pk_us, onp_up st (Nat.le_refl _) ho⟩
        have x95 : x4 < 95 := Int32.lt_iff_toInt_lt.mpr (by omega)
        rcases hc with ⟨_, hu, hcu, hc0⟩ | ⟨_, hno, hu⟩
        · refine zk_ite (fun hle => absurd (zle hle) (by omega)) (fun _ => ?_)
          refine zk_ite (fun _ => ?_) (fun z => absurd x95 z)
          refine zk_ite (fun z => absurd (zlt z) (by omega)) (fun _ => ?_)
          rw [hcu]
          exact psh
        · have hcs : (c = -1 ∧ sNm (g (47 + 200 * t)) (g (47 + 200 * t + 4 + 2 * i + 1)) x y z = x) ∨ (c = -2 ∧ sNm (g (47 + 200 * t)) (g (47 + 200 * t + 4 + 2 * i + 1)) x y z = y) ∨ (c = -3 ∧ sNm (g (47 + 200 * t)) (g (47 + 200 * t + 4 + 2 * i + 1)) x y z = z) := by
            rcases hno with ⟨hk, h⟩ | ⟨hk, h⟩ | ⟨hk, h⟩
            · rcases h with ⟨h, hc⟩ | ⟨h, hc⟩ | ⟨h, hc⟩
              · exact Or.inl ⟨hc, by rw [hk, h]; rfl⟩
              · exact Or.inr (Or.inl ⟨hc, by rw [hk, h]; rfl⟩)
              · exact Or.inr (Or.inr ⟨hc, by rw [hk, h]; rfl⟩)
            · rcases h with ⟨h, hc⟩ | ⟨h, hc⟩
              · exact Or.inl ⟨hc, by rw [hk, h]; rfl⟩
              · exact Or.inr (Or.inl ⟨hc, by rw [hk, h]; rfl⟩)
            · rcases h with ⟨h, hc⟩ | ⟨h, hc⟩
              · exact Or.inl ⟨hc, by rw [hk, h]; rfl⟩
              · exact Or.inr (Or.inl ⟨hc, by rw [hk, h]; rfl⟩)
          rcases hcs with ⟨hc, hs⟩ | ⟨hc, hs⟩ | ⟨hc, hs⟩
          · rw [hu, hs] at psh
            refine zk_ite (fun hle => absurd hle (by rw [hc]; decide)) (fun _ => ?_)
            refine zk_ite (fun _ => ?_) (fun z => absurd x95 z)
            refine zk_ite (fun _ => ?_) (fun z => absurd (show c < 0 by rw [hc]; decide) z)
            exact zk_ite (fun _ => psh) (fun z => absurd hc z)
          · rw [hu, hs] at psh
            refine zk_ite (fun hle => absurd hle (by rw [hc]; decide)) (fun _ => ?_)
            refine zk_ite (fun _ => ?_) (fun z => absurd x95 z)
            refine zk_ite (fun _ => ?_) (fun z => absurd (show c < 0 by rw [hc]; decide) z)
            refine zk_ite (fun z => absurd (z.symm.trans hc) (by decide)) (fun _ => ?_)
            exact zk_ite (fun _ => psh) (fun z => absurd hc z)
          · rw [hu, hs] at psh
            refine zk_ite (fun hle => absurd hle (by rw [hc]; decide)) (fun _ => ?_)
            refine zk_ite (fun _ => ?_) (fun z => absurd x95 z)
            refine zk_ite (fun _ => ?_) (fun z => absurd (show c < 0 by rw [hc]; decide) z)
            refine zk_ite (fun z => absurd (z.symm.trans hc) (by decide)) (fun _ => ?_)
            exact zk_ite (fun z => absurd (z.symm.trans hc) (by decide)) (fun _ => psh)
      · -- not
        subst hst
        have hlr : x4.toInt = r.length := by have : x4.toInt + 1 = ((r.length + 1 : Nat) : Int) := hl; omega
        have hli' : r.length + 1 ≤ i := hli
        have n4 := ztn (i := x4) (by omega)
        refine zk_ite (fun _ => ?_) (fun z => absurd (show c ≤ -1000 by rw [hc]; decide) z)
        refine zk_ite (fun _ => ?_) (fun z => absurd hc z)
        refine zk_ite (fun _ => ?_) (fun z => absurd (Int32.le_iff_toInt_le.mpr (by omega)) z)
        refine zk_in (zin_mk (by omega) (by omega)) ?_
        have pt : ∀ w : Int32, w = (if u = 0 then 1 else 0) → zk (B_X5_workOut_122 (11 + 3 * t) x y z rec x4 x5 w x4 s) (fun r _ => r = evT g t x y z) := fun w hw' => by
          unfold B_X5_workOut_122
          refine zk_in (zin_mk (by omega) (by omega)) ?_
          refine zk_let (fun s' q => ?_)
          rw [show x4.toNatClampNeg = r.length by omega] at q
          refine nxt x4 s' (w :: r) (by show x4.toInt + 1 = ((r.length + 1 : Nat) : Int); omega) (by show r.length + 1 ≤ i + 1; omega) (fun p h => by rw [q]; exact up2 _ _ p h) ?_ (by rw [hv, hw']) hd'
          rw [q, upr]
          exact ⟨pk_us, onp_up r (Nat.le_refl _) ho.2⟩
        have hu : s (11 + 3 * t + 2) x4.toNatClampNeg = u := by rw [show x4.toNatClampNeg = r.length by omega]; exact ho.1
        rw [hu]
        exact zk_ite (fun h => pt 1 (by rw [if_pos h])) (fun h => pt 0 (by rw [if_neg h]))
      · -- join
        subst hst
        have hlr : x4.toInt = r.length + 1 := by have : x4.toInt + 1 = ((r.length + 1 + 1 : Nat) : Int) := hl; omega
        have hli' : r.length + 1 + 1 ≤ i := hli
        obtain ⟨g1, g2, g3⟩ := SR.sg hsg
        refine zk_ite (fun _ => ?_) (fun z => absurd (Int32.le_iff_toInt_le.mpr (by rw [hc, e1k]; exact g1)) z)
        refine zk_ite (fun z => absurd (hc.symm.trans z) g2) (fun _ => ?_)
        refine zk_ite (fun _ => ?_) (fun z => absurd (Int32.le_iff_toInt_le.mpr (by omega)) z)
        have pa := zTadd (zTs x4) (zTl zt_m1) (by omega) (by omega)
        have pb := zTadd pa (zTl zt_1) (by omega) (by omega)
        have ia : (x4 + (-1)).toNatClampNeg = r.length := zTn pa (by omega)
        have ib : ((x4 + (-1)) + 1).toNatClampNeg = r.length + 1 := zTn pb (by omega)
        refine zk_in (zin_mkT pa (by omega) (by omega)) ?_
        refine zk_in (zin_mkT pb (by omega) (by omega)) ?_
        rw [ia, ib, hc, g3]
        have hu : s (11 + 3 * t + 2) r.length = u := ho.2.1
        have hvv : s (11 + 3 * t + 2) (r.length + 1) = v := ho.1
        rw [hu, hvv, c_joined]
        show zk (zlet (zg_up s (11 + 3 * t + 2) r.length (sJn (g (47 + 200 * t + 4 + 2 * i + 1)) u v)) (fun σ59 => B_X5_workOut_169 (11 + 3 * t) x y z rec (x4 + (-1)) x5 σ59)) _
        refine zk_let (fun s' q => ?_)
        refine nxt (x4 + (-1)) s' (sJn (g (47 + 200 * t + 4 + 2 * i + 1)) u v :: r) (by rw [zTe pa]; show x4.toInt + (-1) + 1 = ((r.length + 1 : Nat) : Int); omega) (by show r.length + 1 ≤ i + 1; omega) (fun p h => by rw [q]; exact up2 _ _ p h) ?_ hv hd'
        rw [q, upr]
        exact ⟨pk_us, onp_up r (Nat.le_refl _) ho.2.2⟩
