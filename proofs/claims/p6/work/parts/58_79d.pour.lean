/-! reads, pour, lay -/
theorem c_hasNumber {σ τ : zg_S} (h : RR σ τ) (hM : IMc τ) {n i : Nat} {a : Int32} (hn : n < 4) (ha : a.toInt = i) : f_X2_hasNumber (53 + 2 * n) a σ = some (if (i : Int) < (τ 5 n).toInt then (if τ 6 (24 * n + i) = -1000000005 then 0 else 1) else 0, σ) := by
  obtain ⟨_, y, z, _⟩ := h.2.2.2.2.1 n hn
  have f5 : 0 ≤ (τ 5 n).toInt ∧ (τ 5 n).toInt ≤ 24 := hM 5 n
  have en : a.toNatClampNeg = i := zTn (zTl ha) rfl
  unfold f_X2_hasNumber
  by_cases c : (i : Int) < (τ 5 n).toInt
  · rw [c_hasPlace1 (by rw [y]; exact f5.1) (by rw [y]; omega), zbd_s, if_neg one_ne, if_pos (zin_mk (by omega) (by omega)), en, z i (by omega), if_pos c]
    by_cases d : τ 6 (24 * n + i) = -1000000005
    · rw [if_pos d, if_pos d]
    · rw [if_neg d, if_neg d]
  · rw [c_hasPlace0 (by rw [y]; exact f5.1) (by rw [y]; omega), zbd_s, if_pos rfl, if_neg c]
/-- the first place that is not what the stall spoils -/
def rdA (g row : Nat → Int32) (len : Int) (i : Nat) : Prop := ¬ row i = -1000000005 ∧ (¬ (i : Int) < (g 0).toInt ∨ ¬ row i = sLs g i)
def rdR (g row : Nat → Int32) (len : Int) (r : Int32) : Prop := (r = -1000000005 ∧ ∀ i : Nat, (i : Int) < len → ¬ rdA g row len i) ∨ ∃ i : Nat, r.toInt = i ∧ (i : Int) < len ∧ rdA g row len i ∧ ∀ j : Nat, j < i → ¬ rdA g row len j
theorem rdR_u {g row : Nat → Int32} {len : Int} {r r' : Int32} (h : rdR g row len r) (h' : rdR g row len r') : r = r' := by
  rcases h with ⟨a, b⟩ | ⟨i, i1, i2, i3, i4⟩
  · rcases h' with ⟨c, d⟩ | ⟨j, j1, j2, j3, j4⟩
    · rw [a, c]
    · exact absurd j3 (b j j2)
  · rcases h' with ⟨c, d⟩ | ⟨j, j1, j2, j3, j4⟩
    · exact absurd i3 (d i i2)
    · refine Int32.toInt_inj.mp ?_
      by_cases x : i < j
      · exact absurd i3 (j4 i x)
      · by_cases y : j < i
        · exact absurd j3 (i4 j y)
        · omega
theorem v_reads {σ τ : zg_S} (h : RR σ τ) (hM : IMc τ) (a : Int32) : z2 (f_X6_reads a σ) (f_X7_reads a τ) SM := by
  refine ro h ?_ (w_X6_reads a σ) (w_X7_reads a τ) (fun p k z => z) (fun p k z => z)
  have e0 := zt_0
  have e1 := zt_1
  have e24 := zt_24
  obtain ⟨hE, hT, o, _⟩ := id h.1
  have n0 := o.1.1
  unfold f_X6_reads f_X7_reads
  refine z2_sheet (z2_pL rfl (z2_pR rfl (z2_some rfl))) (fun n hn h4 en zi => z2_nL one_ne (z2_nR one_ne (z2_pL zi (z2_pR zi ?_))))
  rw [en]
  have f5 : 0 ≤ (τ 5 n).toInt ∧ (τ 5 n).toInt ≤ 24 := hM 5 n
  rcases c_missing h h4 with ⟨m1, q1⟩ | ⟨m1, m2, q1⟩
  · refine z2_eL q1 (z2_nL one_ne (z2_nR (fun z => ?_) (z2_some rfl)))
    have := zle z
    have := zlt m1
    omega
  refine z2_eL q1 (z2_pL rfl (z2_pR m2 ?_))
  obtain ⟨_, y, z, _⟩ := h.2.2.2.2.1 n h4
  have C : zk (L_X6_reads_29 a zfu (53 + 2 * n) 0 σ) (fun r _ => rdR (τ 1) (fun i => τ 6 (24 * n + i)) (τ 5 n).toInt r) := by
    unfold L_X6_reads_29
    refine zl_NI (fun (q : Nat) (x : Int32) (s : zg_S) => q = 53 + 2 * n ∧ wr WS σ s ∧ ∃ i : Nat, x.toInt = i ∧ (i : Int) ≤ (τ 5 n).toInt ∧ ∀ j : Nat, j < i → ¬ rdA (τ 1) (fun i => τ 6 (24 * n + i)) (τ 5 n).toInt j) (fun (_ : Nat) (x : Int32) (_ : zg_S) => (24 - x.toInt).toNat) ?_ zfu _ _ _ ⟨rfl, wr.rf, 0, e0, by omega, fun j hj => by omega⟩ (by unfold zfu; omega)
    intro rec q x s hI ih
    obtain ⟨rfl, hw, i, hi, hi2, hj⟩ := hI
    have hs : RR s τ := h.same (fun p k hp => hw p k (fun z => by unfold WS at z; unfold sideC at hp; omega)) (fun p k _ _ => hw p k (fun z => by unfold WS at z; omega)) (fun _ _ _ => rfl) rfl
    have ni := ztn (i := x) (by omega)
    unfold B_X6_reads_29
    rw [show s (53 + 2 * n) 1 = τ 5 n from (hs.2.2.2.2.1 n h4).2.1]
    refine zk_ite (fun hle => ?_) (fun hlt => ?_)
    · have := zle hle
      exact zk_some (Or.inl ⟨rfl, fun j hj' => hj j (by omega)⟩)
    · have gl := znle hlt
      have ex := zTe (zTadd (zTs x) (zTl zt_1) (by omega) (by omega))
      have nx7 : ∀ t : zg_S, wr WS σ t → ¬ rdA (τ 1) (fun i => τ 6 (24 * n + i)) (τ 5 n).toInt i → zk (B_X6_reads_80 a rec (53 + 2 * n) x t) (fun r _ => rdR (τ 1) (fun i => τ 6 (24 * n + i)) (τ 5 n).toInt r) := fun t ht hr => by
        unfold B_X6_reads_80
        refine ih (53 + 2 * n) (x + 1) t ⟨rfl, ht, i + 1, by rw [ex, hi]; rfl, by omega, fun j hj' => ?_⟩ (by show (24 - (x + 1).toInt).toNat < (24 - x.toInt).toNat; rw [ex]; omega)
        by_cases e : j = i
        · subst e; exact hr
        · exact hj j (by omega)
      have hN := c_hasNumber hs hM h4 hi
      rw [if_pos (by omega)] at hN
      refine zk_e hN ?_
      by_cases d : τ 6 (24 * n + i) = -1000000005
      · rw [if_pos d]
        refine zk_ite (fun _ => nx7 s hw (fun z => z.1 d)) (fun z => absurd rfl z)
      · rw [if_neg d]
        refine zk_ite (fun z => absurd z one_ne) (fun _ => ?_)
        have hit : (¬ (i : Int) < (τ 1 0).toInt ∨ ¬ τ 6 (24 * n + i) = sLs (τ 1) i) → rdR (τ 1) (fun i => τ 6 (24 * n + i)) (τ 5 n).toInt x := fun hc => Or.inr ⟨i, hi, by omega, ⟨d, hc⟩, hj⟩
        have e3 : s 153 3 = τ 1 0 := hs.f 0 (by decide)
        by_cases c : (i : Int) < (τ 1 0).toInt
        · refine zk_e (c_isStall1 (by rw [e3]; omega)) (zk_ite (fun z => absurd z one_ne) (fun _ => ?_))
          refine zk_in (zin_mk (by omega) (by omega)) (zk_in (zin_mk (by omega) (by omega)) ?_)
          rw [show x.toNatClampNeg = i by omega]
          refine zk_call (c_lossOf hs.1.1 hs.1.2.1 o (by decide) i c) (fun r t hq => ?_)
          rw [hq.1, (hs.2.2.2.2.1 n h4).2.2.1 i (by omega)]
          exact zk_ite (fun hv => nx7 t (hw.tr hq.2 (fun _ _ z => z)) (fun z => z.2.elim (fun y => y c) (fun y => y hv))) (fun hv => zk_some (hit (Or.inr hv)))
        · refine zk_e (c_isStall0 (by rw [e3]; exact n0.1) (by rw [e3]; omega)) (zk_ite (fun _ => zk_some (hit (Or.inl c))) (fun z => absurd rfl z))
  have D : zk (L_X7_reads_25 a zfu 0 τ) (fun r _ => rdR (τ 1) (fun i => τ 6 (24 * n + i)) (τ 5 n).toInt r) := by
    unfold L_X7_reads_25
    refine zl_I (fun (x : Int32) (t : zg_S) => (∀ p, p ≠ 14 → p ≠ 15 → t p = τ p) ∧ ∃ i : Nat, x.toInt = i ∧ (i : Int) ≤ (τ 5 n).toInt ∧ ∀ j : Nat, j < i → ¬ rdA (τ 1) (fun i => τ 6 (24 * n + i)) (τ 5 n).toInt j) (fun (x : Int32) (_ : zg_S) => (24 - x.toInt).toNat) ?_ zfu _ _ ⟨fun _ _ _ => rfl, 0, e0, by omega, fun j hj => by omega⟩ (by unfold zfu; omega)
    intro rec x t hI ih
    obtain ⟨hp, i, hi, hi2, hj⟩ := hI
    unfold B_X7_reads_25
    refine zk_in zi ?_
    rw [en, hp 5 (by decide) (by decide), hp 6 (by decide) (by decide), hp 1 (by decide) (by decide)]
    refine zk_ite (fun hle => ?_) (fun hlt => ?_)
    · have := zle hle
      exact zk_some (Or.inl ⟨rfl, fun j hj' => hj j (by omega)⟩)
    · have gl := znle hlt
      have ex := zTe (zTadd (zTs x) (zTl zt_1) (by omega) (by omega))
      have pi := zTadd (zTmul (zTl zt_24) (zTs a) (by omega) (by omega)) (zTs x) (by omega) (by omega)
      have ii := zTn pi (show (24 * a.toInt + x.toInt : Int) = ((24 * n + i : Nat) : Int) by omega)
      refine zk_in (zin_mkT pi (by omega) (by omega)) (zk_let (fun v ev => ?_))
      rw [ii] at ev
      subst ev
      have nx7 : ∀ u : zg_S, (∀ p, p ≠ 14 → p ≠ 15 → u p = τ p) → ¬ rdA (τ 1) (fun i => τ 6 (24 * n + i)) (τ 5 n).toInt i → zk (B_X7_reads_74 a rec x u) (fun r _ => rdR (τ 1) (fun i => τ 6 (24 * n + i)) (τ 5 n).toInt r) := fun u hu hr => by
        unfold B_X7_reads_74
        refine ih (x + 1) u ⟨hu, i + 1, by rw [ex, hi]; rfl, by omega, fun j hj' => ?_⟩ (by show (24 - (x + 1).toInt).toNat < (24 - x.toInt).toNat; rw [ex]; omega)
        by_cases e : j = i
        · subst e; exact hr
        · exact hj j (by omega)
      refine zk_ite (fun d => nx7 t hp (fun z => z.1 d)) (fun d => ?_)
      have hit : (¬ (i : Int) < (τ 1 0).toInt ∨ ¬ τ 6 (24 * n + i) = sLs (τ 1) i) → rdR (τ 1) (fun i => τ 6 (24 * n + i)) (τ 5 n).toInt x := fun hc => Or.inr ⟨i, hi, by omega, ⟨d, hc⟩, hj⟩
      refine zk_ite (fun hle => ?_) (fun hlt2 => ?_)
      · have := zle hle
        exact zk_some (hit (Or.inl (by omega)))
      · have g2 := znle hlt2
        refine zk_call (zk_w (r_spoils (hp 1 (by decide) (by decide)) o hT.tv hi (by omega)) (w_X7_spoils x t)) (fun r u hq => ?_)
        rw [hq.1.1]
        exact zk_ite (fun hv => nx7 u (fun p p1 p2 => (funext (fun k => hq.2 p k (by unfold W_X7_spoils; omega))).trans (hp p p1 p2)) (fun z => z.2.elim (fun y => y (by omega)) (fun y => y hv))) (fun hv => zk_some (hit (Or.inr hv)))
  exact z2_kk C D (fun r s r' t q q' => rdR_u q q')
/-- goods become the places of a sheet -/
def sPo (g row : Nat → Int32) (len : Int) : Nat → (Nat → Int32) × Int32
  | 0 => (g, 0)
  | i + 1 => if (i : Int) < len ∧ ¬ row i = -1000000005 then (upd (sPo g row len i).1 (11 + 4 * i + 2) (sHeld (row i) 0 999), (sPo g row len i).2 + if sHeld (row i) 0 999 = g (11 + 4 * i + 2) then 0 else 1) else sPo g row len i
theorem sPo_c {g row : Nat → Int32} {len : Int} {j : Nat} : ∀ i, (j < 11 ∨ 11 + 4 * i ≤ j ∨ j % 4 ≠ 1) → (sPo g row len i).1 j = g j := by
  intro i
  induction i with
  | zero => intro _; rfl
  | succ i ih =>
    intro hj
    show (if (i : Int) < len ∧ ¬ row i = -1000000005 then (upd (sPo g row len i).1 (11 + 4 * i + 2) (sHeld (row i) 0 999), (sPo g row len i).2 + if sHeld (row i) 0 999 = g (11 + 4 * i + 2) then 0 else 1) else sPo g row len i).1 j = g j
    by_cases c : (i : Int) < len ∧ ¬ row i = -1000000005
    · rw [if_pos c]
      show upd (sPo g row len i).1 (11 + 4 * i + 2) (sHeld (row i) 0 999) j = g j
      rw [pk_un (by omega)]
      exact ih (by omega)
    · rw [if_neg c]
      exact ih (by omega)
theorem sPo_ok {g row : Nat → Int32} {len : Int} (o : gOK g) : ∀ i : Nat, i ≤ 9 → gOK (sPo g row len i).1 := by
  have e999 := zt_999
  intro i
  induction i with
  | zero => intro _; exact o
  | succ i ih =>
    intro hi
    show gOK (if (i : Int) < len ∧ ¬ row i = -1000000005 then (upd (sPo g row len i).1 (11 + 4 * i + 2) (sHeld (row i) 0 999), (sPo g row len i).2 + if sHeld (row i) 0 999 = g (11 + 4 * i + 2) then 0 else 1) else sPo g row len i).1
    by_cases c : (i : Int) < len ∧ ¬ row i = -1000000005
    · rw [if_pos c]
      have := sHeld_b (row i) 999 (by omega)
      exact (ih (by omega)).go (by omega) (by omega)
    · rw [if_neg c]
      exact ih (by omega)
theorem sPo_e {g row : Nat → Int32} {len : Int} {i j : Nat} (hij : i ≤ j) (hl : len ≤ i) : sPo g row len j = sPo g row len i := by
  induction j with
  | zero => rw [show i = 0 by omega]
  | succ j ih =>
    by_cases e : i = j + 1
    · rw [e]
    · show (if (j : Int) < len ∧ ¬ row j = -1000000005 then _ else sPo g row len j) = _
      rw [if_neg (fun z => by have := z.1; omega)]
      exact ih (by omega)
