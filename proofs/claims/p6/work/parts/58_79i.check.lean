/-! check -/
theorem r_aside (q1 q2 : Nat) (σ : zg_S) (h1 : 2847 ≤ mln q1) (h2 : 2847 ≤ mln q2) (hne : q1 ≠ q2) : zk (f_X7_setAside q1 q2 σ) (fun _ s => (∀ k, k < 2847 → s q2 k = σ q1 k) ∧ (∀ k, 2847 ≤ k → s q2 k = σ q2 k) ∧ ∀ p, p ≠ q2 → s p = σ p) := by
  have e0 := zt_0
  have e9 := zt_2847
  have l1 : (ML).2.2 q1 = mln q1 := rfl
  have l2 : (ML).2.2 q2 = mln q2 := rfl
  unfold f_X7_setAside L_X7_setAside_2
  refine zl_I (fun (x : Int32) (s : zg_S) => ∃ i : Nat, x.toInt = i ∧ i ≤ 2847 ∧ (∀ k : Nat, k < i → s q2 k = σ q1 k) ∧ (∀ k : Nat, i ≤ k → s q2 k = σ q2 k) ∧ (∀ p, p ≠ q2 → s p = σ p)) (fun (x : Int32) (_ : zg_S) => (2847 - x.toInt).toNat) ?_ zfu _ _ ⟨0, e0, by omega, fun k hk => by omega, fun k _ => rfl, fun p _ => rfl⟩ (by unfold zfu; omega)
  intro rec x s hI ih
  obtain ⟨i, hi, hi2, ha, hb, hp⟩ := hI
  unfold B_X7_setAside_2
  refine zk_ite (fun h => ?_) (fun h => ?_)
  · have g := zle h
    exact zk_some ⟨fun k hk => ha k (by omega), fun k hk => hb k (by omega), hp⟩
  · have g := znle h
    have en : x.toNatClampNeg = i := zTn (zTl hi) rfl
    refine zk_in (zin_mk (by omega) (by rw [l1]; omega)) (zk_let (fun y ey => ?_))
    refine zk_in (zin_mk (by omega) (by rw [l2]; omega)) (zk_let (fun t q => ?_))
    rw [en] at ey q
    have ex := zTe (zTadd (zTs x) (zTl zt_1) (by omega) (by omega))
    refine ih (x + 1) t ⟨i + 1, by rw [ex, hi]; rfl, by omega, fun k hk => ?_, fun k hk => ?_, fun p hq => ?_⟩ (by show (2847 - (x + 1).toInt).toNat < (2847 - x.toInt).toNat; rw [ex]; omega)
    · rw [q]
      by_cases e : k = i
      · subst e
        exact zgot.trans (ey.trans (congrFun (hp q1 hne) _))
      · exact (zkeepn e).trans (ha k (by omega))
    · rw [q]
      exact (zkeepn (by omega)).trans (hb k (by omega))
    · rw [q]
      exact (zg_row_ne hq).trans (hp p hq)
def ckR (T d : Nat → Int32) (c m : Nat) (r : Int32) : Prop := ∃ x : Nat, x ≤ c ∧ x ≤ m ∧ (∀ j, j < x → T j = d j) ∧ (x < c → x < m → ¬ T x = d x) ∧ r.toInt = if x = c ∧ x = m then 0 else 1 + (x : Int)
theorem ckR_u {T T' d d' : Nat → Int32} {c m : Nat} {r r' : Int32} (hT : ∀ j, j < c → T j = T' j) (hd : ∀ j, j < m → d j = d' j) (h : ckR T d c m r) (h' : ckR T' d' c m r') : r = r' := by
  obtain ⟨x, x1, x2, x3, x4, x5⟩ := h
  obtain ⟨y, y1, y2, y3, y4, y5⟩ := h'
  have e : x = y := by
    by_cases l : x < y
    · exact absurd ((hT x (by omega)).trans ((y3 x l).trans (hd x (by omega)).symm)) (x4 (by omega) (by omega))
    · by_cases l2 : y < x
      · exact absurd ((hT y (by omega)).symm.trans ((x3 y l2).trans (hd y (by omega)))) (y4 (by omega) (by omega))
      · omega
  subst e
  exact Int32.toInt_inj.mp (x5.trans y5.symm)
def due (g : Nat → Int32) (j : Nat) : Int32 := if j % 2 = 0 then sGn g (j / 2 + 1) 4 else sGn g (j / 2 + 1) 7
theorem dueE (g : Nat → Int32) (i : Nat) : due g (2 * i) = sGn g (i + 1) 4 := by
  unfold due
  rw [if_pos (by omega), show 2 * i / 2 = i by omega]
theorem dueO (g : Nat → Int32) (i : Nat) : due g (2 * i + 1) = sGn g (i + 1) 7 := by
  unfold due
  rw [if_neg (by omega), show (2 * i + 1) / 2 = i by omega]
theorem c_check {a : Int32} {σ : zg_S} {g : Nat → Int32} (hE : EQB σ 165 g) (hT : TXR σ 165 g) (o : gOK g) (hC : gC g) (h9 : (g 2).toInt ≤ 9999) {x2 x3 : Int32} {c m : Nat} (h2 : x2.toInt = c) (h3 : x3.toInt = m) (hc : c ≤ 60) (hm : m ≤ 30) : zk (L_X6_check_64 a zfu x2 x3 0 σ) (fun r s => ckR (σ 5) (due g) c (2 * m) r ∧ s 0 11 = σ 0 11) := by
  have e0 := zt_0
  have e1 := zt_1
  have e2 := zt_2
  unfold L_X6_check_64
  refine zl_III (fun (y2 y3 x : Int32) (s : zg_S) => y2 = x2 ∧ y3 = x3 ∧ ∃ i : Nat, x.toInt = i ∧ i ≤ m ∧ 2 * i ≤ c ∧ (∀ j, j < 2 * i → σ 5 j = due g j) ∧ EQB s 165 (sGn g i) ∧ TXR s 165 (sGn g i) ∧ (∀ k, s 5 k = σ 5 k) ∧ s 0 11 = σ 0 11) (fun (_ _ x : Int32) (_ : zg_S) => (31 - x.toInt).toNat) ?_ zfu _ _ _ _ ⟨rfl, rfl, 0, e0, by omega, by omega, fun j hj => by omega, hE, hT, fun _ => rfl, rfl⟩ (by unfold zfu; omega)
  intro rec y2 y3 x s hI ih
  obtain ⟨rfl, rfl, i, hi, him, hic, hj, hEs, hTs, h5, h11⟩ := hI
  unfold B_X6_check_64
  have t3 := zTmul (zTl zt_2) (zTs y3) (by omega) (by omega)
  have tx := zTmul (zTl zt_2) (zTs x) (by omega) (by omega)
  refine zk_ite (fun hle => ?_) (fun hlt => ?_)
  · have := zle hle
    have : i = m := by omega
    subst this
    refine zk_ite (fun h => ?_) (fun h => ?_)
    · have := zle h
      rw [zTe t3] at this
      refine zk_some ⟨⟨2 * i, hic, by omega, hj, fun z _ => by omega, ?_⟩, h11⟩
      rw [if_pos (by omega)]
      rfl
    · have := znle h
      rw [zTe t3] at this
      refine zk_some ⟨⟨2 * i, hic, by omega, hj, fun _ z => by omega, ?_⟩, h11⟩
      rw [if_neg (by omega), zTe (zTadd (zTl zt_1) t3 (by omega) (by omega))]
      omega
  · have gl := znle hlt
    obtain ⟨x1, _⟩ := sGn_ok o hC i (by omega)
    have ex := zTe (zTadd (zTs x) (zTl zt_1) (by omega) (by omega))
    have tx1 := zTadd tx (zTl zt_1) (by omega) (by omega)
    refine c_go hEs hTs x1 (by decide) (fun r u hE' hX' hw => ?_)
    have u5 : ∀ k, u 5 k = σ 5 k := fun k => (hw 5 k (by unfold W_X0_passHour; omega)).trans (h5 k)
    have u11 : u 0 11 = σ 0 11 := (hw 0 11 (by unfold W_X0_passHour; omega)).trans h11
    have n113 : (c ≤ 2 * i ∨ ¬ σ 5 (2 * i) = due g (2 * i)) → zk (B_X6_check_113 a (2 * x) u) (fun r s => ckR (σ 5) (due g) c (2 * m) r ∧ s 0 11 = σ 0 11) := fun hd => by
      unfold B_X6_check_113
      refine zk_some ⟨⟨2 * i, hic, by omega, hj, fun z _ => hd.elim (fun w => by omega) id, ?_⟩, u11⟩
      rw [if_neg (by omega), zTe (zTadd (zTl zt_1) tx (by omega) (by omega))]
      omega
    have n145 : σ 5 (2 * i) = due g (2 * i) → 2 * i < c → (c ≤ 2 * i + 1 ∨ ¬ σ 5 (2 * i + 1) = due g (2 * i + 1)) → zk (B_X6_check_145 a (2 * x) u) (fun r s => ckR (σ 5) (due g) c (2 * m) r ∧ s 0 11 = σ 0 11) := fun hz hlt hd => by
      unfold B_X6_check_145
      refine zk_some ⟨⟨2 * i + 1, by omega, by omega, fun j hj' => ?_, fun z _ => hd.elim (fun w => by omega) id, ?_⟩, u11⟩
      · by_cases e : j = 2 * i
        · subst e; exact hz
        · exact hj j (by omega)
      · rw [if_neg (by omega), zTe (zTadd (zTl zt_2) tx (by omega) (by omega))]
        omega
    refine zk_ite (fun h => n113 (Or.inl ?_)) (fun h => ?_)
    · have := zle h
      rw [zTe tx] at this
      omega
    have g1 := znle h
    rw [zTe tx] at g1
    refine zk_in (zin_mkT tx (by omega) (by omega)) ?_
    rw [zTn tx (show (2 * x.toInt : Int) = ((2 * i : Nat) : Int) by omega), u5, show u 165 11 = due g (2 * i) from (hE'.f 4 (by decide)).trans (dueE g i).symm]
    refine zk_ite (fun hq => ?_) (fun hq => n113 (Or.inr hq))
    refine zk_ite (fun h => n145 hq (by omega) (Or.inl ?_)) (fun h => ?_)
    · have := zle h
      rw [zTe tx1] at this
      omega
    have g2 := znle h
    rw [zTe tx1] at g2
    refine zk_in (zin_mkT tx1 (by omega) (by omega)) ?_
    rw [zTn tx1 (show (2 * x.toInt + 1 : Int) = ((2 * i + 1 : Nat) : Int) by omega), u5, show u 165 6 = due g (2 * i + 1) from (hE'.f 7 (by decide)).trans (dueO g i).symm]
    refine zk_ite (fun hq2 => ?_) (fun hq2 => n145 hq (by omega) (Or.inr hq2))
    refine ih y2 y3 (x + 1) u ⟨rfl, rfl, i + 1, by rw [ex, hi]; rfl, by omega, by omega, fun j hj' => ?_, hE', hX', u5, u11⟩ (by show (31 - (x + 1).toInt).toNat < (31 - x.toInt).toNat; rw [ex]; omega)
    by_cases e : j = 2 * i
    · subst e; exact hq
    · by_cases e2 : j = 2 * i + 1
      · subst e2; exact hq2
      · exact hj j (by omega)
theorem r_cmp {a x2 x3 : Int32} {c m : Nat} (h2 : x2.toInt = c) (h3 : x3.toInt = m) (hc : c ≤ 60) (hm : m ≤ 60) (τ : zg_S) : zk (L_X7_check_138 a zfu x2 x3 0 τ) (fun r s => s = τ ∧ ckR (τ 17) (τ 18) c m r) := by
  have e0 := zt_0
  have e1 := zt_1
  unfold L_X7_check_138
  refine zl_III (fun (y2 y3 x : Int32) (s : zg_S) => y2 = x2 ∧ y3 = x3 ∧ s = τ ∧ ∃ i : Nat, x.toInt = i ∧ i ≤ m ∧ i ≤ c ∧ (∀ j, j < i → τ 17 j = τ 18 j)) (fun (_ _ x : Int32) (_ : zg_S) => (61 - x.toInt).toNat) ?_ zfu _ _ _ _ ⟨rfl, rfl, rfl, 0, e0, by omega, by omega, fun j hj => by omega⟩ (by unfold zfu; omega)
  intro rec y2 y3 x s hI ih
  obtain ⟨rfl, rfl, rfl, i, hi, him, hic, hj⟩ := hI
  have en : x.toNatClampNeg = i := zTn (zTl hi) rfl
  have ex1 := zTe (zTadd (zTl zt_1) (zTs x) (by omega) (by omega))
  have fin : (i < c → i < m → ¬ s 17 i = s 18 i) → zk (B_X7_check_173 a y2 y3 x s) (fun r t => t = s ∧ ckR (s 17) (s 18) c m r) := fun hd => by
    unfold B_X7_check_173 B_X7_check_189
    refine zk_ite (fun h => ?_) (fun h => ?_)
    · have := zeq h
      refine zk_ite (fun h' => ?_) (fun h' => ?_)
      · have := zeq h'
        refine zk_some ⟨rfl, i, hic, him, hj, hd, ?_⟩
        rw [if_pos (by omega)]
        rfl
      · refine zk_some ⟨rfl, i, hic, him, hj, hd, ?_⟩
        rw [if_neg (fun z => h' (Int32.toInt_inj.mp (by omega))), ex1]
        omega
    · refine zk_some ⟨rfl, i, hic, him, hj, hd, ?_⟩
      rw [if_neg (fun z => h (Int32.toInt_inj.mp (by omega))), ex1]
      omega
  unfold B_X7_check_138
  refine zk_ite (fun h => fin (fun z _ => by have := zle h; omega)) (fun h => ?_)
  refine zk_ite (fun h' => fin (fun _ z => by have := zle h'; omega)) (fun h' => ?_)
  have g1 := znle h
  have g2 := znle h'
  refine zk_in (zin_mk (by omega) (by omega)) ?_
  rw [en]
  refine zk_ite (fun hq => ?_) (fun hq => fin (fun _ _ => hq))
  have ex := zTe (zTadd (zTs x) (zTl zt_1) (by omega) (by omega))
  refine ih y2 y3 (x + 1) s ⟨rfl, rfl, rfl, i + 1, by rw [ex, hi]; rfl, by omega, by omega, fun j hj' => ?_⟩ (by show (61 - (x + 1).toInt).toNat < (61 - x.toInt).toNat; rw [ex]; omega)
  by_cases e : j = i
  · subst e; exact hq
  · exact hj j (by omega)
theorem ckR_d {T d d' : Nat → Int32} {c m : Nat} {r : Int32} (hd : ∀ j, j < m → d j = d' j) (h : ckR T d c m r) : ckR T d' c m r := by
  obtain ⟨x, x1, x2, x3, x4, x5⟩ := h
  exact ⟨x, x1, x2, fun j hj => (x3 j hj).trans (hd j (by omega)), fun z z' w => x4 z z' (w.trans (hd x z').symm), x5⟩
theorem r_check {a x2 : Int32} {τ : zg_S} {g : Nat → Int32} (h1 : τ 1 = g) (o : gOK g) (hC : gC g) (hV : tvs g) (h9 : (g 2).toInt ≤ 9999) {c m : Nat} (h2 : x2.toInt = c) (hc : c ≤ 60) (ha : a.toInt ≤ 30) (m1 : (m : Int) ≤ a.toInt) (m2 : (m : Int) ≤ 9999 - (g 2).toInt) (m3 : (m : Int) = a.toInt ∨ (m : Int) = 9999 - (g 2).toInt) : zk (L_X7_check_65 a zfu x2 0 0 τ) (fun r s => ckR (τ 17) (due g) c (2 * m) r ∧ (∀ k, k < 2847 → s 1 k = τ 3 k) ∧ (∀ k, 2847 ≤ k → s 1 k = g k) ∧ s 0 29 = τ 0 29) := by
  have e0 := zt_0
  have e1 := zt_1
  have e2 := zt_2
  have e9 := zt_9999
  unfold L_X7_check_65
  refine zl_III (fun (y2 y x : Int32) (s : zg_S) => y2 = x2 ∧ ∃ i : Nat, x.toInt = i ∧ y.toInt = 2 * i ∧ i ≤ m ∧ s 1 = sGn g i ∧ (∀ j, j < 2 * i → s 18 j = due g j) ∧ s 17 = τ 17 ∧ s 3 = τ 3 ∧ s 0 = τ 0) (fun (_ _ x : Int32) (_ : zg_S) => (31 - x.toInt).toNat) ?_ zfu _ _ _ _ ⟨rfl, 0, e0, e0, by omega, h1, fun j hj => by omega, rfl, rfl, rfl⟩ (by unfold zfu; omega)
  intro rec y2 y x s hI ih
  obtain ⟨rfl, i, hi, hy, him, hs, hd, h17, h3, h0⟩ := hI
  obtain ⟨x1, _, x3, x4, _⟩ := sGn_ok o hC i (by omega)
  have fin : i = m → zk (B_X7_check_123 a y2 y s) (fun r s => ckR (τ 17) (due g) c (2 * m) r ∧ (∀ k, k < 2847 → s 1 k = τ 3 k) ∧ (∀ k, 2847 ≤ k → s 1 k = g k) ∧ s 0 29 = τ 0 29) := fun e => by
    subst e
    unfold B_X7_check_123
    refine zk_call (r_aside 3 1 s (by decide) (by decide) (by decide)) (fun _ t q => ?_)
    obtain ⟨q1, q2, q3⟩ := q
    refine zk_mono (r_cmp (m := 2 * i) h2 (by omega) hc (by omega) t) (fun r u w => ?_)
    obtain ⟨rfl, w2⟩ := w
    refine ⟨?_, fun k hk => by rw [q1 k hk, h3], fun k hk => by rw [q2 k hk, hs]; exact x4.2 k (by omega), by rw [q3 0 (by decide), h0]⟩
    rw [q3 17 (by decide), h17, q3 18 (by decide)] at w2
    exact ckR_d hd w2
  unfold B_X7_check_65
  refine zk_ite (fun h => fin (by have := zle h; omega)) (fun h => ?_)
  rw [hs]
  refine zk_ite (fun h' => fin (by have := zle h'; omega)) (fun h' => ?_)
  have g1 := znle h
  have g2 := znle h'
  refine zk_call (r_go hs x1 (hV.st x4)) (fun _ t q => ?_)
  obtain ⟨t1, tw⟩ := q
  have y1 := zTadd (zTs y) (zTl zt_1) (by omega) (by omega)
  have ey : y.toNatClampNeg = 2 * i := zTn (zTs y) (by omega)
  refine zk_in (zin_mk (by omega) (by omega)) (zk_let (fun u qu => zk_in (zin_mkT y1 (by omega) (by omega)) (zk_let (fun v qv => ?_))))
  rw [ey] at qu
  rw [zTn y1 (show (y.toInt + 1 : Int) = ((2 * i + 1 : Nat) : Int) by omega)] at qv
  have tk : ∀ p, p ≠ 1 → p ≠ 14 → p ≠ 15 → t p = s p := fun p a1 a2 a3 => funext (fun k => tw p k (by unfold W_X7_goesOn; omega))
  have vk : ∀ p, p ≠ 18 → v p = t p := fun p hp => by
    rw [qv, up_ne hp, qu, up_ne hp]
  have u1 : u 1 = t 1 := by rw [qu]; exact up_ne (by decide)
  have ex := zTe (zTadd (zTs x) (zTl zt_1) (by omega) (by omega))
  have eyy := zTe (zTadd (zTs y) (zTl zt_2) (by omega) (by omega))
  refine ih y2 (y + 2) (x + 1) v ⟨rfl, i + 1, by rw [ex, hi]; rfl, by rw [eyy]; omega, by omega, (vk 1 (by decide)).trans t1, fun j hj => ?_, by rw [vk 17 (by decide), tk 17 (by decide) (by decide) (by decide), h17], by rw [vk 3 (by decide), tk 3 (by decide) (by decide) (by decide), h3], by rw [vk 0 (by decide), tk 0 (by decide) (by decide) (by decide), h0]⟩ (by show (31 - (x + 1).toInt).toNat < (31 - x.toInt).toNat; rw [ex]; omega)
  by_cases c1 : j = 2 * i + 1
  · subst c1
    rw [qv, dueO, u1, t1]
    exact zgot
  · rw [qv, show zg_up u 18 (2 * i + 1) (u 1 7) 18 j = u 18 j from zkeepn c1, qu]
    by_cases c2 : j = 2 * i
    · subst c2
      rw [dueE, t1]
      exact zgot
    · rw [show zg_up t 18 (2 * i) (t 1 4) 18 j = t 18 j from zkeepn c2, tk 18 (by decide) (by decide) (by decide)]
      exact hd j (by omega)
theorem v_check {σ τ : zg_S} (h : RR σ τ) (hM : 0 ≤ (τ 0 29).toInt ∧ (τ 0 29).toInt ≤ 60) (a : Int32) : z2 (f_X6_check a σ) (f_X7_check a τ) SM := by
  have e0 := zt_0
  have e1 := zt_1
  have e30 := zt_30
  have e9 := zt_9999
  obtain ⟨hc, hl⟩ := h.2.2.2.1
  suffices z2 (f_X6_check a σ) (f_X7_check a τ) (fun r s r' t => r = r' ∧ s 0 11 = 0 ∧ t 0 29 = 0 ∧ t 1 = τ 1) by
    refine z2_mono (z2_w this (w_X6_check a σ) (w_X7_check a τ)) (fun r s r' t hq => ?_)
    obtain ⟨⟨q1, q2, q3, q4⟩, hw, hw'⟩ := hq
    have h0 : RR (zg_up σ 0 11 0) (zg_up τ 0 29 0) := by
      refine h.r4 (fun p k hp => ?_) (fun p k hp => ?_) ⟨zgot.trans zgot.symm, fun i hi => ?_⟩
      · by_cases e : p = 0
        · subst e
          exact zkeepn (by omega)
        · exact congrFun (zg_row_ne e) k
      · by_cases e : p = 0
        · subst e
          exact zkeepn (by omega)
        · exact congrFun (zg_row_ne e) k
      · rw [zgot] at hi
        omega
    refine ⟨q1, h0.same (fun p k hp => ?_) (fun p k h1 h2 => ?_) (fun p k hp => ?_) (q4.trans (up_ne (by decide)).symm)⟩
    · by_cases e : p = 0 ∧ k = 11
      · obtain ⟨rfl, rfl⟩ := e
        exact q2.trans zgot.symm
      · rw [hw p k (fun z => by unfold W_X6_check at z; unfold sideC at hp; omega)]
        by_cases e2 : p = 0
        · subst e2
          exact (zkeepn (by omega)).symm
        · exact (congrFun (zg_row_ne e2) k).symm
    · rw [hw p k (fun z => by unfold W_X6_check at z; omega)]
      exact (congrFun (zg_row_ne (by omega)) k).symm
    · by_cases e : p = 0 ∧ k = 29
      · obtain ⟨rfl, rfl⟩ := e
        exact q3.trans zgot.symm
      · rw [hw' p k (fun z => by unfold W_X7_check at z; unfold sideM at hp; omega)]
        by_cases e2 : p = 0
        · subst e2
          exact (zkeepn (by omega)).symm
        · exact (congrFun (zg_row_ne e2) k).symm
  unfold f_X6_check f_X7_check
  refine z2_lL (fun s0 q0 => z2_lR (fun t0 p0 => ?_))
  have sk : ∀ p k, ¬ (p = 0 ∧ k = 11) → s0 p k = σ p k := fun p k hp => by
    rw [q0]
    by_cases e : p = 0
    · subst e
      exact zkeepn (by omega)
    · exact congrFun (zg_row_ne e) k
  have tk : ∀ p k, ¬ (p = 0 ∧ k = 29) → t0 p k = τ p k := fun p k hp => by
    rw [p0]
    by_cases e : p = 0
    · subst e
      exact zkeepn (by omega)
    · exact congrFun (zg_row_ne e) k
  have s11 : s0 0 11 = 0 := by rw [q0]; exact zgot
  have t29 : t0 0 29 = 0 := by rw [p0]; exact zgot
  have t01 : t0 1 = τ 1 := funext (fun k => tk 1 k (by omega))
  refine z2_within (fun _ => z2_pL rfl (z2_pR rfl (z2_some ⟨rfl, s11, t29, t01⟩))) (fun a1 a2 => z2_nL one_ne (z2_nR one_ne ?_))
  rw [show s0 0 12 = t0 0 3 by rw [sk 0 12 (by omega), tk 0 3 (by omega)]; exact h.2.1.1]
  refine z2_iL (fun d => z2_pR d (z2_some ⟨rfl, s11, t29, t01⟩)) (fun d => z2_nR d ?_)
  obtain ⟨i1, i2⟩ := h.2.1.2 (by rw [← tk 0 3 (by omega)]; exact d)
  have i0 : BZ s0 177 (τ 2) := bz_wr i1 (by decide) (fun q k _ _ => sk q k (by omega)) (fun q k _ _ _ => sk q k (by omega))
  refine z2_cR (r_aside 1 3 t0 (by decide) (by decide) (by decide)) (fun _ t1 p1 => ?_)
  refine z2_cR (r_aside 2 1 t1 (by decide) (by decide) (by decide)) (fun _ t2 p2 => ?_)
  obtain ⟨a3, a4, a5⟩ := p1
  obtain ⟨b3, b4, b5⟩ := p2
  have ag : AG (τ 2) (t2 1) := fun k hk => by
    rw [b3 k hk, a5 2 (by decide)]
    exact tk 2 k (by omega)
  obtain ⟨gE, gT, o, hC, h9⟩ := bz_ag ag i0
  refine z2_cL (zk_w (c_takeOver (p := 165) gE gT o.1.1 o.2.2.1.2 (by decide) (by decide) (by decide)) (w_X0_takeOver 165 177 s0)) (fun _ s1 q1 => z2_lL (fun y ey => ?_))
  obtain ⟨⟨cE, cT⟩, cw⟩ := q1
  have g2 := o.1.2.1
  have e7 : s1 177 7 = t2 1 2 := (cw 177 7 (by unfold W_X0_takeOver; omega)).trans (gE.f 2 (by decide))
  rw [e7] at ey
  have t9 := zTe (zTsub (zTl zt_9999) (zTs (t2 1 2)) (by omega) (by omega))
  obtain ⟨m, hm, m1, m2, m3⟩ : ∃ m : Nat, y.toInt = m ∧ (m : Int) ≤ a.toInt ∧ (m : Int) ≤ 9999 - (t2 1 2).toInt ∧ ((m : Int) = a.toInt ∨ (m : Int) = 9999 - (t2 1 2).toInt) := by
    refine ⟨y.toInt.toNat, ?_⟩
    by_cases c : 9999 - t2 1 2 < a
    · rw [if_pos c] at ey
      have := zlt c
      rw [t9] at this
      rw [ey, t9]
      omega
    · rw [if_neg c] at ey
      have := znlt c
      rw [t9] at this
      rw [ey]
      omega
  obtain ⟨n, hn⟩ : ∃ n : Nat, (τ 0 29).toInt = n := ⟨(τ 0 29).toInt.toNat, by omega⟩
  rw [hc]
  have t2k : ∀ p k, p ≠ 1 → p ≠ 3 → t2 p k = t0 p k := fun p k x y => by rw [b5 p x, a5 p y]
  refine z2_kk (c_check cE cT o hC h9 hn hm (by omega) (by omega)) (r_check rfl o hC gT.tv h9 hn (by omega) (by omega) m1 m2 m3) (fun r s r' t q q' => ?_)
  obtain ⟨w1, w2⟩ := q
  obtain ⟨v1, v2, v3, v4⟩ := q'
  refine ⟨ckR_u (fun j hj => ?_) (fun _ _ => rfl) w1 v1, ?_, ?_, funext (fun k => ?_)⟩
  · rw [cw 5 j (by unfold W_X0_takeOver; omega), sk 5 j (by omega), t2k 17 j (by decide) (by decide), tk 17 j (by omega)]
    exact hl j (by omega)
  · rw [w2, cw 0 11 (by unfold W_X0_takeOver; omega)]
    exact s11
  · rw [v4, t2k 0 29 (by decide) (by decide)]
    exact t29
  · by_cases c : k < 2847
    · rw [v2 k c, b5 3 (by decide), a3 k c]
      exact tk 1 k (by omega)
    · rw [v3 k (by omega), b4 k (by omega), a5 1 (by decide)]
      exact tk 1 k (by omega)
