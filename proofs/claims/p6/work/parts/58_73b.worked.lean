/-! the reference's texts worked out, and which of them counts -/
def TV (g : Nat → Int32) (t : Nat) : Prop := ∀ i : Nat, (i : Int) < (g (47 + 200 * t + 2)).toInt → ∃ c, SR (g (47 + 200 * t)) c (g (47 + 200 * t + 4 + 2 * i)) (g (47 + 200 * t + 4 + 2 * i + 1))
theorem TxE.tv {σ : zg_S} {g : Nat → Int32} {t : Nat} (h : TxE σ g t) : TV g t := fun i hi => ⟨_, h.2.2.2.2 i hi⟩
theorem sNo_b {key v c : Int32} (h : sNo key v c) : 0 ≤ v.toInt ∧ v.toInt < 128 := by
  rcases h with ⟨_, h⟩ | ⟨_, h⟩ | ⟨_, h⟩
  · rcases h with ⟨h, _⟩ | ⟨h, _⟩ | ⟨h, _⟩ <;> (rw [h]; decide)
  · rcases h with ⟨h, _⟩ | ⟨h, _⟩ <;> (rw [h]; decide)
  · rcases h with ⟨h, _⟩ | ⟨h, _⟩ <;> (rw [h]; decide)
theorem zk_e {o : Option (Int32 × zg_S)} {k : Int32 → zg_S → Option (Int32 × zg_S)} {r : Int32} {s : zg_S} {P : Int32 → zg_S → Prop} (h : o = some (r, s)) (hk : zk (k r s) P) : zk (zbd o k) P := by
  rw [h]
  exact hk
theorem r_textAt (a : Int32) (τ : zg_S) : f_X7_textAt a τ = some (47 + (200 * a), τ) := rfl
theorem r_worked (a1 : Int32) (t : Nat) (x y z : Int32) (τ : zg_S) (g : Nat → Int32) (h1 : τ 1 = g) (ha : a1.toInt = t) (ht : t ≤ 13) (hV : TV g t) (hW : wfT g (47 + 200 * t)) (hN : ∀ v c, sNo (g (47 + 200 * t)) v c → τ 14 v.toNatClampNeg = sNm (g (47 + 200 * t)) v x y z) : zk (f_X7_worked a1 τ) (fun r _ => r = evT g t x y z) := by
  obtain ⟨w1, w2, w3⟩ := hW
  have e1 := zt_1
  have em := zt_m1
  have e0 := zt_0
  have e2 := zt_2
  have e4 := zt_4
  have e47 := zt_47
  have e200 := zt_200
  have nn := ztn w1
  have pT := zTadd (zTl zt_47) (zTmul (zTl zt_200) (zTs a1) (by omega) (by omega)) (by omega) (by omega)
  unfold f_X7_worked L_X7_worked_4
  refine zl_II (fun (x2 x3 : Int32) (s : zg_S) => ∃ (i m : Nat) (st : List Int32), x3.toInt = i ∧ x2.toInt = st.length ∧ (i : Int) + m = (g (47 + 200 * t + 2)).toInt ∧ st.length ≤ i ∧ (∀ p, p ≠ 15 → s p = τ p) ∧ onp (s 15) st ∧ (evs g (47 + 200 * t + 4) (g (47 + 200 * t)) x y z i m st).headD 0 = evT g t x y z ∧ dep g (47 + 200 * t + 4) i m st.length = some 1) (fun (_ x3 : Int32) (_ : zg_S) => (99 - x3.toInt).toNat) ?_ zfu _ _ _ ⟨0, (g (47 + 200 * t + 2)).toNatClampNeg, [], e0, by rw [e0]; rfl, by omega, Nat.le_refl _, fun _ _ => rfl, trivial, rfl, w3⟩ (by unfold zfu; omega)
  intro rec x2 x3 s hI ih
  obtain ⟨i, m, st, hi, hl, hm, hli, hp, ho, he, hd⟩ := hI
  have hi0 : 0 ≤ x3.toInt := by omega
  have s1 : s 1 = g := (hp 1 (by decide)).trans h1
  have s14 : s 14 = τ 14 := hp 14 (by decide)
  unfold B_X7_worked_4
  refine zk_e (r_textAt _ _) ?_
  have p2 := zTadd pT (zTl zt_2) (by omega) (by omega)
  refine zk_in (zin_mkT p2 (by omega) (by omega)) ?_
  rw [s1, zTn p2 (show (47 + 200 * a1.toInt + 2 : Int) = ((47 + 200 * t + 2 : Nat) : Int) by omega)]
  refine zk_ite (fun hle => ?_) (fun hlt => ?_)
  · have gl := zle hle
    have hm0 : m = 0 := by omega
    subst hm0
    obtain ⟨u, hu, hu2⟩ := ev_end (key := g (47 + 200 * t)) (x := x) (y := y) (z := z) hd
    subst hu
    refine zk_some ?_
    rw [← he, hu2]
    exact ho.1
  · have gl := znle hlt
    match m, hm, hd, he with
    | 0, hm, _, _ => exact absurd hm (by omega)
    | m + 1, hm, hd, he =>
      have hin : (i : Int) < (g (47 + 200 * t + 2)).toInt := by omega
      obtain ⟨c, hr⟩ := hV i hin
      have pa := zTadd (zTadd pT (zTl zt_4) (by omega) (by omega)) (zTmul (zTl zt_2) (zTs x3) (by omega) (by omega)) (by omega) (by omega)
      have pb := zTadd pa (zTl zt_1) (by omega) (by omega)
      have ia := zTn pa (show (47 + 200 * a1.toInt + 4 + 2 * x3.toInt : Int) = ((47 + 200 * t + 4 + 2 * i : Nat) : Int) by omega)
      have ib := zTn pb (show (47 + 200 * a1.toInt + 4 + 2 * x3.toInt + 1 : Int) = ((47 + 200 * t + 4 + 2 * i + 1 : Nat) : Int) by omega)
      refine zk_e (r_textAt _ _) ?_
      refine zk_in (zin_mkT pa (by omega) (by omega)) ?_
      rw [s1, ia]
      refine zk_let (fun w ew => ?_)
      refine zk_e (r_textAt _ _) ?_
      refine zk_in (zin_mkT pb (by omega) (by omega)) ?_
      rw [s1, ib]
      refine zk_let (fun v ev => ?_)
      have ex := zTe (zTadd (zTs x3) (zTl zt_1) (by omega) (by omega))
      have nxt : ∀ (x2' : Int32) (s' : zg_S) (st' : List Int32), x2'.toInt = st'.length → st'.length ≤ i + 1 → (∀ p, p ≠ 15 → s' p = τ p) → onp (s' 15) st' → ev1 (g (47 + 200 * t)) x y z (g (47 + 200 * t + 4 + 2 * i)) (g (47 + 200 * t + 4 + 2 * i + 1)) st = st' → dep g (47 + 200 * t + 4) (i + 1) m st'.length = some 1 → zk (B_X7_worked_157 a1 rec x2' x3 s') (fun r _ => r = evT g t x y z) := fun x2' s' st' h1 h2 h3 h4 h5 h6 => by
        unfold B_X7_worked_157
        refine ih x2' (x3 + 1) s' ⟨i + 1, m, st', by rw [ex, hi]; rfl, h1, by omega, h2, h3, h4, ?_, h6⟩ (by show (99 - (x3 + 1).toInt).toNat < (99 - x3.toInt).toNat; rw [ex]; omega)
        rw [← he, ← h5]
        rfl
      have up2 : ∀ (j : Nat) (v : Int32) (p : Nat), p ≠ 15 → zg_up s 15 j v p = τ p := fun j v p h => (zg_row_ne h).trans (hp p h)
      have upr : ∀ (j : Nat) (v : Int32), zg_up s 15 j v 15 = upd (s 15) j v := fun j v => zg_row_eq
      have n2 := ztn (i := x2) (by omega)
      rcases ev1_c (x := x) (y := y) (z := z) hd hr with ⟨u, hv, hd', hc⟩ | ⟨u, r, hst, hv, hd', hw, h33, hc⟩ | ⟨v', u, r, hst, hv, hd', hw, hsg, hc⟩
      · have psh : zk (B_X7_worked_86 a1 rec x2 x3 u x2 s) (fun r _ => r = evT g t x y z) := by
          have ea := zTe (zTadd (zTs x2) (zTl zt_1) (by omega) (by omega))
          unfold B_X7_worked_86
          refine zk_in (zin_mk (by omega) (by omega)) ?_
          refine zk_let (fun s' q => ?_)
          rw [show x2.toNatClampNeg = st.length by omega] at q
          refine nxt (x2 + 1) s' (u :: st) (by rw [ea]; show x2.toInt + 1 = ((st.length + 1 : Nat) : Int); omega) (by show st.length + 1 ≤ i + 1; omega) (fun p h => by rw [q]; exact up2 _ _ p h) ?_ hv hd'
          rw [q, upr]
          exact ⟨pk_us, onp_up st (Nat.le_refl _) ho⟩
        rcases hc with ⟨hw, hu, _, _⟩ | ⟨hw, hno, hu⟩
        · refine zk_ite (fun q => absurd (q.symm.trans (ew.trans hw)) (by decide)) (fun _ => ?_)
          refine zk_ite (fun _ => ?_) (fun q => absurd (ew.trans hw) q)
          rw [ev, ← hu]
          exact psh
        · refine zk_ite (fun q => absurd (q.symm.trans (ew.trans hw)) (by decide)) (fun _ => ?_)
          refine zk_ite (fun q => absurd (q.symm.trans (ew.trans hw)) (by decide)) (fun _ => ?_)
          have hb := sNo_b hno
          rw [← ev] at hb
          refine zk_in (zin_mk hb.1 (by omega)) ?_
          rw [s14, ev, hN _ _ hno, ← hu]
          exact psh
      · subst hst
        have hlr : x2.toInt = r.length + 1 := by have : x2.toInt = ((r.length + 1 : Nat) : Int) := hl; omega
        have hli' : r.length + 1 ≤ i := hli
        refine zk_ite (fun _ => ?_) (fun q => absurd (ew.trans hw) q)
        refine zk_ite (fun _ => ?_) (fun q => absurd (ev.trans h33) q)
        have pm := zTsub (zTs x2) (zTl zt_1) (by omega) (by omega)
        have im : (x2 - 1).toNatClampNeg = r.length := zTn pm (by omega)
        refine zk_in (zin_mkT pm (by omega) (by omega)) ?_
        rw [im]
        have pt : ∀ w : Int32, w = (if u = 0 then 1 else 0) → zk (B_X7_worked_123 a1 rec x2 x3 w (x2 - 1) s) (fun r _ => r = evT g t x y z) := fun w hw' => by
          unfold B_X7_worked_123
          refine zk_in (zin_mkT pm (by omega) (by omega)) ?_
          rw [im]
          refine zk_let (fun s' q => ?_)
          refine nxt x2 s' (w :: r) (by show x2.toInt = ((r.length + 1 : Nat) : Int); omega) (by show r.length + 1 ≤ i + 1; omega) (fun p h => by rw [q]; exact up2 _ _ p h) ?_ (by rw [hv, hw']) hd'
          rw [q, upr]
          exact ⟨pk_us, onp_up r (Nat.le_refl _) ho.2⟩
        rw [show s 15 r.length = u from ho.1]
        exact zk_ite (fun h => pt 1 (by rw [if_pos h])) (fun h => pt 0 (by rw [if_neg h]))
      · subst hst
        have hlr : x2.toInt = r.length + 2 := by have : x2.toInt = ((r.length + 1 + 1 : Nat) : Int) := hl; omega
        have hli' : r.length + 1 + 1 ≤ i := hli
        have h33 : ¬ v = 33 := fun e => by
          rw [← ev, e] at hsg
          revert hsg
          unfold sSg
          decide
        refine zk_ite (fun _ => ?_) (fun q => absurd (ew.trans hw) q)
        refine zk_ite (fun q => absurd q h33) (fun _ => ?_)
        have pc := zTadd (zTs x2) (zTl zt_m1) (by omega) (by omega)
        have pd := zTsub pc (zTl zt_1) (by omega) (by omega)
        have ic : (x2 + (-1)).toNatClampNeg = r.length + 1 := zTn pc (by omega)
        have id' : ((x2 + (-1)) - 1).toNatClampNeg = r.length := zTn pd (by omega)
        refine zk_in (zin_mkT pd (by omega) (by omega)) ?_
        refine zk_in (zin_mkT pc (by omega) (by omega)) ?_
        rw [ic, id', show s 15 r.length = u from ho.2.1, show s 15 (r.length + 1) = v' from ho.1, ev, r_joined _ _ _ _ hsg]
        show zk (zlet (zg_up s 15 r.length (sJn (g (47 + 200 * t + 4 + 2 * i + 1)) u v')) (fun σ85 => B_X7_worked_157 a1 rec (x2 + (-1)) x3 σ85)) _
        refine zk_let (fun s' q => ?_)
        refine nxt (x2 + (-1)) s' (sJn (g (47 + 200 * t + 4 + 2 * i + 1)) u v' :: r) (by rw [zTe pc]; show x2.toInt + (-1) = ((r.length + 1 : Nat) : Int); omega) (by show r.length + 1 ≤ i + 1; omega) (fun p h => by rw [q]; exact up2 _ _ p h) ?_ hv hd'
        rw [q, upr]
        exact ⟨pk_us, onp_up r (Nat.le_refl _) ho.2.2⟩
theorem ofN {n : Nat} (h : n < 2147483648) : (Int32.ofNat n).toInt = n := Int32.toInt_ofNat_of_lt h
theorem sCn_b (g : Nat → Int32) (key : Int32) : ∀ n : Nat, n ≤ 14 → -1 ≤ (sCn g key n).toInt ∧ (sCn g key n).toInt < n ∧ (0 ≤ (sCn g key n).toInt → g (47 + 200 * (sCn g key n).toNatClampNeg) = key) := by
  intro n
  induction n with
  | zero => intro _; exact ⟨by show -1 ≤ (-1 : Int32).toInt; decide, by show (-1 : Int32).toInt < _; decide, fun h => absurd h (by show ¬ 0 ≤ (-1 : Int32).toInt; decide)⟩
  | succ n ih =>
    intro hn
    have h := ih (by omega)
    show -1 ≤ (if g (47 + 200 * n) = key then Int32.ofNat n else sCn g key n).toInt ∧ (if g (47 + 200 * n) = key then Int32.ofNat n else sCn g key n).toInt < ((n + 1 : Nat) : Int) ∧ (0 ≤ (if g (47 + 200 * n) = key then Int32.ofNat n else sCn g key n).toInt → g (47 + 200 * (if g (47 + 200 * n) = key then Int32.ofNat n else sCn g key n).toNatClampNeg) = key)
    by_cases c : g (47 + 200 * n) = key
    · rw [if_pos c]
      have e := ofN (n := n) (by omega)
      have e2 := ztn (i := Int32.ofNat n) (by omega)
      refine ⟨by omega, by omega, fun _ => ?_⟩
      rw [show (Int32.ofNat n).toNatClampNeg = n by omega]
      exact c
    · rw [if_neg c]
      exact ⟨h.1, by omega, h.2.2⟩
theorem r_counts (key : Int32) (τ : zg_S) (g : Nat → Int32) (h1 : τ 1 = g) (hn : 0 ≤ (g 1).toInt ∧ (g 1).toInt ≤ 14) : zk (f_X7_counts key τ) (fun r s => τ = s ∧ r = sCt g key) := by
  have e0 := zt_0
  have e1 := zt_1
  have e47 := zt_47
  have e200 := zt_200
  have nn := ztn hn.1
  unfold f_X7_counts L_X7_counts_4
  refine zl_II (fun (x2 x3 : Int32) (s : zg_S) => τ = s ∧ ∃ i : Nat, x3.toInt = i ∧ (i : Int) ≤ (g 1).toInt ∧ x2 = sCn g key i) (fun (_ x3 : Int32) (_ : zg_S) => (14 - x3.toInt).toNat) ?_ zfu _ _ _ ⟨rfl, 0, e0, by omega, rfl⟩ (by unfold zfu; omega)
  intro rec x2 x3 s hI ih
  obtain ⟨rfl, i, hi, hi2, hx⟩ := hI
  unfold B_X7_counts_4
  rw [h1]
  refine zk_ite (fun hle => ?_) (fun hlt => ?_)
  · have gl := zle hle
    refine zk_some ⟨rfl, ?_⟩
    rw [hx]
    unfold sCt
    rw [show i = (g 1).toNatClampNeg by omega]
  · have gl := znle hlt
    have pT := zTadd (zTl zt_47) (zTmul (zTl zt_200) (zTs x3) (by omega) (by omega)) (by omega) (by omega)
    refine zk_e (r_textAt _ _) ?_
    refine zk_in (zin_mkT pT (by omega) (by omega)) ?_
    rw [h1, zTn pT (show (47 + 200 * x3.toInt : Int) = ((47 + 200 * i : Nat) : Int) by omega)]
    have ex := zTe (zTadd (zTs x3) (zTl zt_1) (by omega) (by omega))
    have ee : ∀ y : Int32, y = sCn g key (i + 1) → zk (B_X7_counts_33 key rec x3 y τ) (fun r s => τ = s ∧ r = sCt g key) := fun y hy => by
      unfold B_X7_counts_33
      exact ih y (x3 + 1) τ ⟨rfl, i + 1, by rw [ex, hi]; rfl, by omega, hy⟩ (by show (14 - (x3 + 1).toInt).toNat < (14 - x3.toInt).toNat; rw [ex]; omega)
    refine zk_ite (fun h => ee _ ?_) (fun h => ee _ ?_)
    · show x3 = if g (47 + 200 * i) = key then Int32.ofNat i else sCn g key i
      rw [if_pos h]
      exact Int32.toInt_inj.mp (by rw [ofN (by omega)]; exact hi)
    · show x2 = if g (47 + 200 * i) = key then Int32.ofNat i else sCn g key i
      rw [if_neg h]
      exact hx
