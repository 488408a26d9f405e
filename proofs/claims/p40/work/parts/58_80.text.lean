section
/-! the two starts are alike -/
theorem RR0 {fd f : Nat → Nat → Int32} (h1 : ini1 fd) (h2 : ini2 f) : RR (x0 fd) (m0 f) := by
  have e0 := zt_0
  have e3 := zt_3
  have e10 := zt_10
  obtain ⟨_, _, _, _, _, _, _, _, _, _, _, _, _, _, _, _, _, _, d0, d1, d2, _⟩ := h1
  obtain ⟨g0, g1, g2, g3, g4, g5, g6, g7, g8, g9, g10, _, k0, k1, k2, k3⟩ := h2
  have m : m0 f 1 = f 1 := rfl
  have ct : ∀ key, cC (f 1) key = -1000000005 := fun key => by
    unfold cC sCt
    rw [g1]
    exact if_neg (by show ¬ (0 : Int32) ≤ -1; decide)
  refine ⟨?_, ⟨rfl, fun z => absurd rfl z⟩, ⟨rfl, fun i hi => rfl⟩, ⟨rfl, fun i hi => rfl⟩, fun k hk => ?_, fun j hj => ?_⟩
  · rw [m]
    refine ⟨⟨fun i hi => ?_, fun k j hk _ => ?_⟩, ⟨⟨?_, ?_, ?_⟩, fun t ht => ?_⟩, ⟨?_, fun k hk => ?_, ?_, fun t ht => ?_, fun t ht => ?_⟩, ?_, ?_⟩
    · match i, hi with
      | 0, _ => exact g0.symm
      | 1, _ => exact g1.symm
      | 2, _ => exact g2.symm
      | 3, _ => exact g3.symm
      | 4, _ => exact g4.symm
      | 5, _ => exact g5.symm
      | 6, _ => exact g6.symm
      | 7, _ => exact g7.symm
      | 8, _ => exact g8.symm
      | 9, _ => exact g9.symm
      | 10, _ => exact g10.symm
    · rw [g0] at hk
      omega
    · rw [ct]; exact d0
    · rw [ct]; exact d1
    · rw [ct]; exact d2
    · rw [g1] at ht
      omega
    · unfold gB
      rw [g0, g2, g7, g8, g9, g10]
      decide
    · rw [g0] at hk
      omega
    · rw [g1]
      decide
    · rw [g1] at ht
      omega
    · rw [g1] at ht
      omega
    · unfold gC
      rw [g2, g3, g4, g5]
      decide
    · rw [g2]
      decide
  · match k, hk with
    | 0, _ => exact ⟨k0.symm, rfl, fun i _ => rfl, Or.inl k0⟩
    | 1, _ => exact ⟨k1.symm, rfl, fun i _ => rfl, Or.inl k1⟩
    | 2, _ => exact ⟨k2.symm, rfl, fun i _ => rfl, Or.inl k2⟩
    | 3, _ => exact ⟨k3.symm, rfl, fun i _ => rfl, Or.inl k3⟩
  · match j, hj with
    | 0, _ => exact ⟨rfl, Or.inl rfl⟩
    | 1, _ => exact ⟨rfl, Or.inl rfl⟩
    | 2, _ => exact ⟨rfl, Or.inl rfl⟩
    | 3, _ => exact ⟨rfl, Or.inl rfl⟩
    | 4, _ => exact ⟨rfl, Or.inl rfl⟩
end
section
/-! best: what the leaves are -/
def dg (c : Nat) : Int32 := if c % 3 = 0 then 0 else if c % 3 = 1 then 1 else 2
theorem dg_m (c : Nat) : dg c = 0 ∨ dg c = 1 ∨ dg c = 2 := by
  unfold dg
  by_cases a : c % 3 = 0
  · rw [if_pos a]; exact Or.inl rfl
  · rw [if_neg a]
    by_cases b : c % 3 = 1
    · rw [if_pos b]; exact Or.inr (Or.inl rfl)
    · rw [if_neg b]; exact Or.inr (Or.inr rfl)
/-- after n hours, hauled by the n digits of c -/
def sLf (g : Nat → Int32) : Nat → Nat → Nat → Int32
  | 0, _ => g
  | n + 1, c => sHr (sLf g n (c / 3)) (sTo (sLf g n (c / 3)) (dg c))
theorem sLf_ok {g : Nat → Int32} (o : gOK g) (hC : gC g) : ∀ n c : Nat, (g 2).toInt + n ≤ 20000 → gOK (sLf g n c) ∧ gC (sLf g n c) ∧ (sLf g n c 2).toInt = (g 2).toInt + n ∧ STx g (sLf g n c) ∧ sLf g n c 0 = g 0 := by
  obtain ⟨n0, n2, _⟩ := id o.1
  have e1 := zt_1
  intro n
  induction n with
  | zero => intro c _; exact ⟨o, hC, by show (g 2).toInt = _; omega, STx.rf, rfl⟩
  | succ n ih =>
    intro x hn
    obtain ⟨a, b, c, d, e⟩ := ih (x / 3) (by omega)
    have m0 := a.1.1
    have ea := zTe (zTadd (zTs (sLf g n (x / 3) 2)) (zTl zt_1) (by omega) (by omega))
    have hto := sTo_b a.1 (dg x)
    have hc := sHr_C a b (by omega) hto
    refine ⟨sHr_ok a (by omega) hto, hc.1, ?_, d.tr (sHr_st m0), (sHr_c m0 (by decide)).trans e⟩
    show (sHr (sLf g n (x / 3)) _ 2).toInt = _
    rw [sHr_2 m0, ea]
    omega
/-- what is spoilt never shrinks below a node -/
theorem sLf_le {g : Nat → Int32} (o : gOK g) (hC : gC g) (d : Nat) : ∀ n c : Nat, (g 2).toInt + (d + n : Nat) ≤ 20000 → (sLf g d (c / 3 ^ n) 4).toInt ≤ (sLf g (d + n) c 4).toInt := by
  intro n
  induction n with
  | zero => intro c _; rw [Nat.pow_zero, Nat.div_one]; exact Int.le_refl _
  | succ n ih =>
    intro c hn
    obtain ⟨a, b, e, _, _⟩ := sLf_ok o hC (d + n) (c / 3) (by omega)
    have hc := sHr_C a b (by omega) (sTo_b a.1 (dg c))
    have h := ih (c / 3) (by omega)
    rw [Nat.div_div_eq_div_mul, show 3 * 3 ^ n = 3 ^ (n + 1) by rw [Nat.pow_succ, Nat.mul_comm]] at h
    exact Int.le_trans h hc.2
/-- the best of the first N leaves: the first of the least -/
def bsF (V : Nat → Int32) (N : Nat) (bc bv : Int32) : Prop := (N = 0 ∧ bv = 2147483647) ∨ ∃ c : Nat, c < N ∧ bc.toInt = c ∧ bv = V c ∧ (∀ j, j < c → (V c).toInt < (V j).toInt) ∧ ∀ j, j < N → (V c).toInt ≤ (V j).toInt
theorem bsF_u {V : Nat → Int32} {N : Nat} {a b a' b' : Int32} (hN : 0 < N) (h : bsF V N a b) (h' : bsF V N a' b') : a = a' ∧ b = b' := by
  rcases h with ⟨z, _⟩ | ⟨c, c1, c2, c3, c4, c5⟩
  · omega
  rcases h' with ⟨z, _⟩ | ⟨d, d1, d2, d3, d4, d5⟩
  · omega
  have e : c = d := by
    by_cases l : c < d
    · have := d4 c l
      have := c5 d d1
      omega
    · by_cases l2 : d < c
      · have := c4 d l2
        have := d5 c c1
        omega
      · omega
  subst e
  exact ⟨Int32.toInt_inj.mp (c2.trans d2.symm), c3.trans d3.symm⟩
/-- leaves that are no better change nothing -/
theorem bsF_skip {V : Nat → Int32} {N M : Nat} {a b : Int32} (h : bsF V N a b) (hN : N ≤ M) (h0 : N = 0 → N = M) (hb : ∀ j, N ≤ j → j < M → b.toInt ≤ (V j).toInt) : bsF V M a b := by
  rcases h with ⟨z, w⟩ | ⟨c, c1, c2, c3, c4, c5⟩
  · exact Or.inl ⟨by have := h0 z; omega, w⟩
  · refine Or.inr ⟨c, by omega, c2, c3, c4, fun j hj => ?_⟩
    by_cases l : j < N
    · exact c5 j l
    · have := hb j (by omega) hj
      rw [c3] at this
      exact this
theorem bsF_take {V : Nat → Int32} {N : Nat} {a b x : Int32} (h : bsF V N a b) (hx : x.toInt = N) (hv : (V N).toInt < b.toInt) : bsF V (N + 1) x (V N) := by
  refine Or.inr ⟨N, by omega, hx, rfl, fun j hj => ?_, fun j hj => ?_⟩
  · rcases h with ⟨z, w⟩ | ⟨c, c1, c2, c3, c4, c5⟩
    · omega
    · have := c5 j hj
      rw [c3] at hv
      omega
  · by_cases e : j = N
    · subst e; exact Int.le_refl _
    · rcases h with ⟨z, w⟩ | ⟨c, c1, c2, c3, c4, c5⟩
      · omega
      · have := c5 j (by omega)
        rw [c3] at hv
        omega
end
section
/-! best: the class -/
def WTh (d : Nat) (p k : Nat) : Prop := (p = 0 ∧ (k = 13 ∨ k = 14)) ∨ (81 + 12 * (d + 1) ≤ p ∧ p ≤ 152) ∨ (13 ≤ p ∧ p ≤ 52 ∧ p % 3 = 1)
theorem p3 (n c : Nat) : 3 * c * 3 ^ n = c * 3 ^ (n + 1) := by rw [Nat.pow_succ, Nat.mul_comm 3 c, Nat.mul_assoc, Nat.mul_comm 3]
theorem th_ok {g : Nat → Int32} (o : gOK g) (hC : gC g) (h9 : (g 2).toInt ≤ 9999) {a : Int32} {A : Nat} (ha : a.toInt = A) (hA : A ≤ 5) : ∀ (n d code : Nat) (x z : Int32) (s : zg_S) (fuel : Nat), d + n = A → n < fuel → x.toInt = d → z.toInt = code → code < 3 ^ d → EQB s (81 + 12 * d) (sLf g d code) → TXR s (81 + 12 * d) (sLf g d code) → bsF (fun c => sLf g A c 4) (code * 3 ^ n) (s 0 14) (s 0 13) → zk (G_th fuel 0 x a z s) (fun _ t => bsF (fun c => sLf g A c 4) ((code + 1) * 3 ^ n) (t 0 14) (t 0 13) ∧ wr (WTh d) s t) := by
  have e0 := zt_0
  have e1 := zt_1
  have e3 := zt_3
  have e5 := zt_5
  intro n
  induction n with
  | zero =>
    intro d code x z s fuel hd hf hx hz hcd hE hT hb
    obtain ⟨f, rfl⟩ : ∃ f, fuel = f + 1 := ⟨fuel - 1, by omega⟩
    show zk (f_X6_tryHaulings (G_th f) x a z s) _
    have en : x.toNatClampNeg = d := zTn (zTl hx) rfl
    have hdA : d = A := by omega
    subst hdA
    rw [Nat.pow_zero, Nat.mul_one] at hb ⊢
    unfold f_X6_tryHaulings
    refine zk_ite (fun h => by have := zlt h; omega) (fun _ => zk_ite (fun _ => ?_) (fun h => by have := znle h; omega))
    refine zk_in (zin_mk (by omega) (by omega)) ?_
    rw [en, show s (81 + 12 * d) 11 = sLf g d code 4 from hE.f 4 (by decide)]
    refine zk_ite (fun h => ?_) (fun h => ?_)
    · refine zk_ite (fun _ => ?_) (fun h' => by have := znle h'; omega)
      unfold B_X6_tryHaulings_41
      refine zk_let (fun s1 q1 => zk_let (fun s2 q2 => zk_some ⟨?_, fun p k hp => ?_⟩))
      · have k13 : s2 0 13 = sLf g d code 4 := by
          rw [q2]
          refine (zkeepn (by decide)).trans ?_
          rw [q1]
          exact zgot.trans (hE.f 4 (by decide))
        have k14 : s2 0 14 = z := by rw [q2]; exact zgot
        rw [k13, k14]
        exact bsF_take (V := fun c => sLf g d c 4) hb hz (zlt h)
      · unfold WTh at hp
        rw [q2, q1]
        by_cases e : p = 0
        · subst e
          exact (zkeepn (by omega)).trans (zkeepn (by omega))
        · exact congrFun ((zg_row_ne e).trans (zg_row_ne e)) k
    · have gl := znlt h
      refine zk_some ⟨bsF_skip hb (by omega) (fun z0 => ?_) (fun j h1 h2 => ?_), wr.rf⟩
      · obtain ⟨y1, y2, y3, _⟩ := sLf_ok o hC d code (by omega)
        rcases hb with ⟨_, w⟩ | ⟨c, c1, _⟩
        · have := y2.2.1
          rw [w] at gl
          have : (2147483647 : Int32).toInt = 2147483647 := by decide
          omega
        · omega
      · rw [show j = code by omega]
        exact gl
  | succ n ih =>
    intro d code x z s fuel hd hf hx hz hcd hE hT hb
    obtain ⟨f, rfl⟩ : ∃ f, fuel = f + 1 := ⟨fuel - 1, by omega⟩
    show zk (f_X6_tryHaulings (G_th f) x a z s) _
    have en : x.toNatClampNeg = d := zTn (zTl hx) rfl
    obtain ⟨y1, y2, y3, y4, y5⟩ := sLf_ok o hC d code (by omega)
    have c243 : code < 243 := Nat.lt_of_lt_of_le hcd (Nat.pow_le_pow_right (by decide) (show d ≤ 5 by omega))
    unfold f_X6_tryHaulings
    refine zk_ite (fun h => by have := zlt h; omega) (fun _ => zk_ite (fun _ => ?_) (fun h => by have := znle h; omega))
    refine zk_in (zin_mk (by omega) (by omega)) ?_
    rw [en, show s (81 + 12 * d) 11 = sLf g d code 4 from hE.f 4 (by decide)]
    refine zk_ite (fun h => ?_) (fun h => ?_)
    · refine zk_ite (fun h' => by have := zle h'; omega) (fun _ => zk_ite (fun h' => by have := zeq h'; omega) (fun _ => ?_))
      unfold L_X6_tryHaulings_59
      refine zl_NI (fun (q : Nat) (w : Int32) (t : zg_S) => q = 81 + 12 * d ∧ ∃ i : Nat, w.toInt = i ∧ i ≤ 3 ∧ EQB t (81 + 12 * d) (sLf g d code) ∧ TXR t (81 + 12 * d) (sLf g d code) ∧ bsF (fun c => sLf g A c 4) ((3 * code + i) * 3 ^ n) (t 0 14) (t 0 13) ∧ wr (WTh d) s t) (fun (_ : Nat) (w : Int32) (_ : zg_S) => (4 - w.toInt).toNat) ?_ zfu _ _ _ ⟨rfl, 0, e0, by omega, hE, hT, by rw [Nat.add_zero, p3]; exact hb, wr.rf⟩ (by unfold zfu; omega)
      intro rec q w t hI ih2
      obtain ⟨rfl, i, hi, hi3, tE, tT, tb, tw⟩ := hI
      unfold B_X6_tryHaulings_59
      refine zk_ite (fun h => ?_) (fun h => ?_)
      · have := zle h
        have : i = 3 := by omega
        subst this
        refine zk_some ⟨?_, tw⟩
        rw [← p3, show 3 * (code + 1) = 3 * code + 3 by omega]
        exact tb
      · have gi := znle h
        have x1 := zTadd (zTs x) (zTl zt_1) (by omega) (by omega)
        have ex1 : (x + 1).toNatClampNeg = d + 1 := zTn x1 (by omega)
        refine zk_in (zin_mkT x1 (by omega) (by omega)) ?_
        rw [ex1]
        refine zk_call (zk_w (c_takeOver (p := 81 + 12 * (d + 1)) tE tT y1.1.1 y1.2.2.1.2 (by omega) (by omega) (by omega)) (w_X0_takeOver (81 + 12 * (d + 1)) (81 + 12 * d) t)) (fun _ u hu => ?_)
        obtain ⟨⟨uE, uT⟩, uw⟩ := hu
        refine zk_call (zk_w (c_hour uE uT y1 (by omega) w) (w_X0_passHour (81 + 12 * (d + 1)) w u)) (fun _ v hv => ?_)
        obtain ⟨⟨vE, vT⟩, vw⟩ := hv
        have tv : wr (WTh d) t v := fun p k hp => (vw p k (fun z => hp (by unfold W_X0_passHour at z; unfold WTh; omega))).trans (uw p k (fun z => hp (by unfold W_X0_takeOver at z; unfold WTh; omega)))
        have tv0 : ∀ k, v 0 k = t 0 k := fun k => (vw 0 k (fun z => by unfold W_X0_passHour at z; omega)).trans (uw 0 k (fun z => by unfold W_X0_takeOver at z; omega))
        have dgw : dg (3 * code + i) = w := by
          unfold dg
          rcases (show i = 0 ∨ i = 1 ∨ i = 2 by omega) with rfl | rfl | rfl
          · rw [if_pos (by omega)]; exact Int32.toInt_inj.mp (by omega)
          · rw [if_neg (by omega), if_pos (by omega)]; exact Int32.toInt_inj.mp (by omega)
          · rw [if_neg (by omega), if_neg (by omega)]; exact Int32.toInt_inj.mp (by rw [hi]; decide)
        have st : sLf g (d + 1) (3 * code + i) = sHr (sLf g d code) (sTo (sLf g d code) w) := by
          show sHr (sLf g d ((3 * code + i) / 3)) (sTo (sLf g d ((3 * code + i) / 3)) (dg (3 * code + i))) = _
          rw [show (3 * code + i) / 3 = code by omega, dgw]
        have zc := zTadd (zTmul (zTs z) (zTl zt_3) (by omega) (by omega)) (zTs w) (by omega) (by omega)
        refine zk_call (ih (d + 1) (3 * code + i) (x + 1) ((z * 3) + w) v f (by omega) (by omega) (by rw [zTe x1]; omega) (by rw [zTe zc]; omega) (by rw [Nat.pow_succ]; omega) (by rw [st]; exact vE) (by rw [st]; exact vT) (by rw [tv0, tv0]; exact tb)) (fun _ b hb' => ?_)
        obtain ⟨b1, b2⟩ := hb'
        have tb' : wr (WTh d) t b := fun p k hp => (b2 p k (fun z => hp (by unfold WTh at z ⊢; omega))).trans (tv p k hp)
        have ew := zTe (zTadd (zTs w) (zTl zt_1) (by omega) (by omega))
        refine ih2 (81 + 12 * d) (w + 1) b ⟨rfl, i + 1, by rw [ew, hi]; rfl, by omega, ?_, ?_, b1, fun p k hp => (tb' p k hp).trans (tw p k hp)⟩ (by show (4 - (w + 1).toInt).toNat < (4 - w.toInt).toNat; rw [ew]; omega)
        · exact tE.wr (by have := y1.1.1; omega) (fun q k h1 h2 => tb' q k (fun z => by unfold WTh at z; omega))
        · exact tT.wr y1.2.2.1.2 (fun k => tb' _ k (fun z => by unfold WTh at z; omega)) (fun q k h1 h2 h3 => tb' q k (fun z => by unfold WTh at z; omega))
    · have gl := znlt h
      have pos : 0 < 3 ^ (n + 1) := Nat.pow_pos (by decide)
      refine zk_some ⟨bsF_skip hb (Nat.mul_le_mul_right _ (by omega)) (fun z0 => ?_) (fun j h1 h2 => ?_), wr.rf⟩
      · rcases hb with ⟨_, w⟩ | ⟨c, c1, _⟩
        · have := y2.2.1
          rw [w] at gl
          have : (2147483647 : Int32).toInt = 2147483647 := by decide
          omega
        · omega
      · have hq : j / 3 ^ (n + 1) = code := Nat.div_eq_of_lt_le h1 h2
        have := sLf_le o hC d (n + 1) j (by omega)
        rw [hq, hd] at this
        exact Int.le_trans gl this
end
section
/-! best: the reference -/
theorem dgt : ∀ x : Fin 243, ∀ k : Fin 5, (Int32.ofNat x.val / Int32.ofNat (3 ^ k.val)) - (Int32.ofNat x.val / Int32.ofNat (3 ^ k.val)) / 3 * 3 = dg (x.val / 3 ^ k.val) := by decide +kernel
theorem d3t : ∀ k : Fin 4, Int32.ofNat (3 ^ (k.val + 1)) / 3 = Int32.ofNat (3 ^ k.val) := by decide +kernel
theorem ont : ∀ x : Fin 244, (Int32.ofNat x.val).toInt = x.val := by decide +kernel
theorem onE {x : Int32} {n : Nat} (h : x.toInt = n) (hn : n < 244) : x = Int32.ofNat n := Int32.toInt_inj.mp (by rw [h]; exact (ont ⟨n, hn⟩).symm)
/-- the digits that are still to go: x7 stands at 3 ^ (m - 1), or at 0 -/
def at7 (m : Nat) : Int32 := if m = 0 then 0 else Int32.ofNat (3 ^ (m - 1))
theorem at7_n : ∀ m : Fin 5, at7 (m.val + 1) / 3 = at7 m.val ∧ 0 < (at7 (m.val + 1)).toInt := by decide +kernel
theorem r_leaf {a b : Int32} {rec59 : Int32 → Int32 → Int32 → Int32 → zg_S → Option (Int32 × zg_S)} {τ s : zg_S} {g : Nat → Int32} (hs : s 1 = g) (hg : τ 1 = g) (kb : KB τ s) (o : gOK g) (hC : gC g) (hV : tvs g) (h9 : (g 2).toInt ≤ 9999) {A c : Nat} (hA : A ≤ 5) (hc : c < 243) {x3 x4 x5 x6 : Int32} (h6 : x6.toInt = c) {P : Int32 → zg_S → Prop} (hc0 : c / 3 ^ A = 0) (hk : ∀ t, t 1 = g → KB τ t → zk (if x4 < 0 then B_X7_best_141 a b rec59 x3 x6 (sLf g A c 4) t else (if x5 ≤ (sLf g A c 4) then B_X7_best_149 a b rec59 x3 x4 x5 x6 t else B_X7_best_141 a b rec59 x3 x6 (sLf g A c 4) t)) P) : zk (L_X7_best_70 a b rec59 zfu x3 x4 x5 x6 (at7 A) s) P := by
  have e0 := zt_0
  have ex6 := onE h6 (by omega)
  unfold L_X7_best_70
  refine zl_IIIII (fun (y3 y4 y5 y6 y7 : Int32) (t : zg_S) => y3 = x3 ∧ y4 = x4 ∧ y5 = x5 ∧ y6 = x6 ∧ ∃ m : Nat, m ≤ A ∧ y7 = at7 m ∧ t 1 = sLf g (A - m) (c / 3 ^ m) ∧ KB τ t) (fun (_ _ _ _ y7 : Int32) (_ : zg_S) => y7.toInt.toNat) ?_ zfu _ _ _ _ _ _ ⟨rfl, rfl, rfl, rfl, A, by omega, rfl, by rw [Nat.sub_self]; exact hs, kb⟩ ?_
  · intro rec y3 y4 y5 y6 y7 t hI ih
    obtain ⟨rfl, rfl, rfl, rfl, m, hm, rfl, ht, htk⟩ := hI
    unfold B_X7_best_70
    match m, hm, ht, ih with
    | 0, hm, ht, ih =>
      refine zk_ite (fun _ => ?_) (fun z => absurd (by decide) z)
      rw [Nat.sub_zero, Nat.pow_zero, Nat.div_one] at ht
      obtain ⟨_, _, _, st, _⟩ := sLf_ok o hC A c (by omega)
      refine zk_call (r_bk' htk (fun k hk' => by rw [ht, hg]; exact st.2 k hk')) (fun _ u hu => ?_)
      rw [ht]
      exact hk u (hu.1.trans hg) hu.2
    | m + 1, hm, ht, ih =>
      obtain ⟨q1, q2⟩ : at7 (m + 1) / 3 = at7 m ∧ 0 < (at7 (m + 1)).toInt := at7_n ⟨m, by omega⟩
      refine zk_ite (fun z => by have := zle z; omega) (fun _ => zk_ite (fun z => by have := zeq z; omega) (fun _ => zk_let (fun v ev => ?_)))
      have d1 := dgt ⟨c, hc⟩ ⟨m, by omega⟩
      rw [← ex6] at d1
      rw [show at7 (m + 1) = Int32.ofNat (3 ^ m) from if_neg (by omega), d1] at ev
      obtain ⟨y1, y2, y3', y4', _⟩ := sLf_ok o hC (A - (m + 1)) (c / 3 ^ (m + 1)) (by omega)
      have eq3 : c / 3 ^ m / 3 = c / 3 ^ (m + 1) := by rw [Nat.div_div_eq_div_mul, Nat.pow_succ]
      have go : zk (B_X7_best_105 a b rec y3 y4 y5 y6 (at7 (m + 1)) (sBv v) t) P := by
        unfold B_X7_best_105
        refine zk_call (zk_w (r_goesOnBy ht y1 (hV.st y4') v (by rw [ev]; exact dg_m _)) (w_X7_goesOnBy (sBv v) t)) (fun _ u hu => ?_)
        rw [q1]
        refine ih _ _ _ _ _ u ⟨rfl, rfl, rfl, rfl, m, by omega, rfl, ?_, htk.w hu.2 (fun p k z => by unfold W_X7_goesOnBy at z; omega)⟩ ?_
        · rw [hu.1, show A - m = (A - (m + 1)) + 1 by omega, ev]
          show _ = sHr (sLf g (A - (m + 1)) (c / 3 ^ m / 3)) (sTo (sLf g (A - (m + 1)) (c / 3 ^ m / 3)) (dg (c / 3 ^ m)))
          rw [eq3]
        · show (at7 m).toInt.toNat < (at7 (m + 1)).toInt.toNat
          have : ∀ m : Fin 5, (at7 m.val).toInt.toNat < (at7 (m.val + 1)).toInt.toNat := by decide +kernel
          exact this ⟨m, by omega⟩
      unfold sBv at go
      refine zk_ite (fun z => by rw [if_pos z] at go; exact go) (fun z => zk_ite (fun z' => by rw [if_neg z, if_pos z'] at go; exact go) (fun z' => by rw [if_neg z, if_neg z'] at go; exact go))
  · have : ∀ m : Fin 6, (at7 m.val).toInt.toNat < 100000 := by decide +kernel
    exact this ⟨A, by omega⟩
end
section
/-! best -/
theorem at7_3 : ∀ m : Fin 5, 3 * at7 (m.val + 1) = Int32.ofNat (3 ^ (m.val + 1)) ∧ (Int32.ofNat (3 ^ (m.val + 1))).toInt = ((3 ^ (m.val + 1) : Nat) : Int) ∧ 3 ^ (m.val + 1) ≤ 243 ∧ at7 (m.val + 1) * 3 = Int32.ofNat (3 ^ (m.val + 1)) := by decide +kernel
theorem r_leaves {a b : Int32} {τ s : zg_S} {g : Nat → Int32} (hs : s 1 = g) (hg : τ 1 = g) (kb : KB τ s) (o : gOK g) (hC : gC g) (hV : tvs g) (h9 : (g 2).toInt ≤ 9999) {A : Nat} (hA : 1 ≤ A ∧ A ≤ 5) : zk (L_X7_best_59 a b zfu (at7 A) (-1) 0 0 s) (fun r t => t 1 = g ∧ KB τ t ∧ ∃ y4 y5 : Int32, bsF (fun c => sLf g A c 4) (3 ^ A) y4 y5 ∧ r = if b = 0 then y4 else y5) := by
  have e0 := zt_0
  have e1 := zt_1
  obtain ⟨m, rfl⟩ : ∃ m, A = m + 1 := ⟨A - 1, by omega⟩
  obtain ⟨q1, q2, q3, _⟩ : 3 * at7 (m + 1) = Int32.ofNat (3 ^ (m + 1)) ∧ (Int32.ofNat (3 ^ (m + 1))).toInt = ((3 ^ (m + 1) : Nat) : Int) ∧ 3 ^ (m + 1) ≤ 243 ∧ at7 (m + 1) * 3 = Int32.ofNat (3 ^ (m + 1)) := at7_3 ⟨m, by omega⟩
  generalize hN : 3 ^ (m + 1) = N at q1 q2 q3 ⊢
  unfold L_X7_best_59
  refine zl_IIII (fun (y3 y4 y5 y6 : Int32) (t : zg_S) => y3 = at7 (m + 1) ∧ ∃ c : Nat, y6.toInt = c ∧ c ≤ N ∧ t 1 = g ∧ KB τ t ∧ ((c = 0 ∧ y4 = -1) ∨ (0 < c ∧ bsF (fun c => sLf g (m + 1) c 4) c y4 y5))) (fun (_ _ _ y6 : Int32) (_ : zg_S) => (244 - y6.toInt).toNat) ?_ zfu _ _ _ _ _ ⟨rfl, 0, e0, by omega, hs, kb, Or.inl ⟨rfl, rfl⟩⟩ (by unfold zfu; omega)
  intro rec y3 y4 y5 y6 t hI ih
  obtain ⟨rfl, c, hc, hcN, ht, htk, hb⟩ := hI
  have Np : 0 < N := by rw [← hN]; exact Nat.pow_pos (by decide)
  unfold B_X7_best_59
  rw [q1]
  refine zk_ite (fun h => ?_) (fun h => ?_)
  · have := zle h
    have : c = N := by omega
    subst this
    rcases hb with ⟨z, _⟩ | ⟨_, hb⟩
    · omega
    refine zk_ite (fun hz => zk_some ⟨ht, htk, y4, y5, hb, by rw [if_pos hz]⟩) (fun hz => zk_some ⟨ht, htk, y4, y5, hb, by rw [if_neg hz]⟩)
  · have gl := znle h
    have ex := zTe (zTadd (zTs y6) (zTl zt_1) (by omega) (by omega))
    have nx : ∀ (u : zg_S) (w4 w5 : Int32), u 1 = g → KB τ u → bsF (fun c => sLf g (m + 1) c 4) (c + 1) w4 w5 → zk (rec (at7 (m + 1)) w4 w5 (y6 + 1) u) (fun r t => t 1 = g ∧ KB τ t ∧ ∃ y4 y5 : Int32, bsF (fun c => sLf g (m + 1) c 4) N y4 y5 ∧ r = if b = 0 then y4 else y5) := fun u w4 w5 h1 h2 h3 => ih _ _ _ _ u ⟨rfl, c + 1, by rw [ex, hc]; rfl, by omega, h1, h2, Or.inr ⟨by omega, h3⟩⟩ (by show (244 - (y6 + 1).toInt).toNat < (244 - y6.toInt).toNat; rw [ex]; omega)
    refine r_leaf ht hg htk o hC hV h9 hA.2 (c := c) (by omega) hc (Nat.div_eq_of_lt (by omega)) (fun u u1 u2 => ?_)
    unfold B_X7_best_141 B_X7_best_149
    refine zk_ite (fun hz => nx u _ _ u1 u2 ?_) (fun hz => zk_ite (fun hz' => nx u _ _ u1 u2 ?_) (fun hz' => nx u _ _ u1 u2 ?_))
    · rcases hb with ⟨z, _⟩ | ⟨_, ⟨z, _⟩ | ⟨c', _, c2, _⟩⟩
      · subst z
        exact Or.inr ⟨0, by omega, hc, rfl, fun j hj => by omega, fun j hj => by rw [show j = 0 by omega]; exact Int.le_refl _⟩
      · omega
      · have := zlt hz
        omega
    · rcases hb with ⟨_, z⟩ | ⟨cp, hb⟩
      · exact absurd (by rw [z]; decide) hz
      · refine bsF_skip hb (by omega) (fun z => by omega) (fun j h1 h2 => ?_)
        rw [show j = c by omega]
        exact zle hz'
    · rcases hb with ⟨_, z⟩ | ⟨cp, hb⟩
      · exact absurd (by rw [z]; decide) hz
      · exact bsF_take (V := fun c => sLf g (m + 1) c 4) hb hc (znle hz')
theorem v_best {σ τ : zg_S} (h : RR σ τ) (a b : Int32) : z2 (f_X6_best a b σ) (f_X7_best a b τ) SM := by
  have e0 := zt_0
  have e1 := zt_1
  have e5 := zt_5
  obtain ⟨hE, hT, o, hC, h99⟩ := id h.1
  by_cases ca : (1 : Int32).toInt ≤ a.toInt ∧ a.toInt ≤ (5 : Int32).toInt
  · by_cases cb : (0 : Int32).toInt ≤ b.toInt ∧ b.toInt ≤ (1 : Int32).toInt
    · refine th h ?_ (w_X6_best a b σ) (fun p k z => by unfold W_X6_best at z; unfold sideC; omega)
      unfold f_X6_best f_X7_best
      refine z2_eL (c_within1 σ ca) (z2_nL one_ne (z2_eL (c_within1 σ cb) (z2_nL one_ne ?_)))
      refine z2_eR (r_isIn1 τ ca) (z2_nR one_ne (z2_eR (r_isIn1 τ cb) (z2_nR one_ne ?_)))
      obtain ⟨A, hA⟩ : ∃ A : Nat, a.toInt = A := ⟨a.toInt.toNat, by omega⟩
      have D : zk (L_X7_best_30 a b zfu 1 1 τ) (fun r t => t 1 = τ 1 ∧ KB τ t ∧ ∃ y4 y5 : Int32, bsF (fun c => sLf (τ 1) A c 4) (3 ^ A) y4 y5 ∧ r = if b = 0 then y4 else y5) := by
        unfold L_X7_best_30
        refine zl_II (fun (x y : Int32) (t : zg_S) => t = τ ∧ ∃ i : Nat, y.toInt = i ∧ 1 ≤ i ∧ i ≤ A ∧ x = at7 i) (fun (_ y : Int32) (_ : zg_S) => (6 - y.toInt).toNat) ?_ zfu _ _ _ ⟨rfl, 1, e1, by omega, by omega, rfl⟩ (by unfold zfu; omega)
        intro rec x y t hI ih
        obtain ⟨rfl, i, hi, i1, i2, rfl⟩ := hI
        unfold B_X7_best_30
        refine zk_ite (fun hz => ?_) (fun hz => ?_)
        · have := zle hz
          have : i = A := by omega
          subst this
          refine zk_call (r_by' t) (fun _ u hu => ?_)
          exact r_leaves hu.1 rfl hu.2 o hC hT.tv h99 ⟨i1, by omega⟩
        · have gl := znle hz
          obtain ⟨m, rfl⟩ : ∃ m, i = m + 1 := ⟨i - 1, by omega⟩
          obtain ⟨_, _, _, q4⟩ : 3 * at7 (m + 1) = Int32.ofNat (3 ^ (m + 1)) ∧ (Int32.ofNat (3 ^ (m + 1))).toInt = ((3 ^ (m + 1) : Nat) : Int) ∧ 3 ^ (m + 1) ≤ 243 ∧ at7 (m + 1) * 3 = Int32.ofNat (3 ^ (m + 1)) := at7_3 ⟨m, by omega⟩
          have ex := zTe (zTadd (zTs y) (zTl zt_1) (by omega) (by omega))
          exact ih _ (y + 1) t ⟨rfl, m + 1 + 1, by rw [ex, hi]; rfl, by omega, by omega, by rw [q4]; exact (if_neg (by omega)).symm⟩ (by show (6 - (y + 1).toInt).toNat < (6 - y.toInt).toNat; rw [ex]; omega)
      refine z2_lL (fun s1 q1 => z2_lL (fun s2 q2 => ?_))
      have f2 : ∀ p, p ≠ 0 → s2 p = σ p := fun p hp => by rw [q2, up_ne hp, q1, up_ne hp]
      have E2 : EQB s2 153 (τ 1) := hE.wr (by have := o.1.1; omega) (fun q k h1 h2 => by rw [f2 q (by omega)])
      have T2 : TXR s2 153 (τ 1) := hT.wr o.2.2.1.2 (fun k => by rw [f2 _ (by omega)]) (fun q k h1 h2 h3 => by rw [f2 q (by omega)])
      refine z2_cL (zk_w (c_takeOver (p := 81) E2 T2 o.1.1 o.2.2.1.2 (by decide) (by decide) (by decide)) (w_X0_takeOver 81 153 s2)) (fun _ s3 q3 => ?_)
      obtain ⟨⟨E3, T3⟩, w3⟩ := q3
      have k13 : s3 0 13 = 2147483647 := by
        rw [w3 0 13 (fun z => by unfold W_X0_takeOver at z; omega), q2]
        refine (zkeepn (by decide)).trans ?_
        rw [q1]
        exact zgot
      have C := th_ok o hC h99 hA (by omega) A 0 0 0 0 s3 8 (by omega) (by omega) e0 e0 (by decide) E3 T3 (by rw [Nat.zero_mul]; exact Or.inl ⟨rfl, k13⟩)
      refine z2_cL C (fun _ s4 q4 => ?_)
      rw [Nat.zero_add, Nat.one_mul] at q4
      obtain ⟨r', t, et, t1, t2, y4, y5, t3, t4⟩ := D
      obtain ⟨u1, u2⟩ := bsF_u (Nat.pow_pos (by decide)) q4.1 t3
      by_cases b0 : b = 0
      · rw [if_pos b0]
        exact ⟨_, s4, r', t, rfl, et, by rw [t4, if_pos b0]; exact u1, t1, t2⟩
      · rw [if_neg b0]
        exact ⟨_, s4, r', t, rfl, et, by rw [t4, if_neg b0]; exact u2, t1, t2⟩
    · refine th0 (r := -1000000001) h ?_ ?_
      · unfold f_X6_best
        rw [c_within1 σ ca, zbd_s, if_neg one_ne, c_within0 σ cb]
        rfl
      · unfold f_X7_best
        rw [r_isIn1 τ ca, zbd_s, if_neg one_ne, r_isIn0 τ cb]
        rfl
  · refine th0 (r := -1000000001) h ?_ ?_
    · unfold f_X6_best
      rw [c_within0 σ ca]
      rfl
    · unfold f_X7_best
      rw [r_isIn0 τ ca]
      rfl
end
section
/-! TEXT: the next word or sign among n bytes T, from e on -/
def qL (n : Int) (T : Nat → Int32) (i : Nat) : Prop := (i : Int) < n ∧ 97 ≤ (T i).toInt ∧ (T i).toInt ≤ 122
def qD (n : Int) (T : Nat → Int32) (i : Nat) : Prop := (i : Int) < n ∧ 48 ≤ (T i).toInt ∧ (T i).toInt ≤ 57
def tq (n : Int) (T : Nat → Int32) (e : Int) (g : Prop) (B E K : Int32) : Prop := e ≤ B.toInt ∧ B.toInt ≤ E.toInt ∧ E.toInt ≤ n ∧ (∀ i : Nat, e ≤ i → (i : Int) < B.toInt → T i = 32) ∧
  ((B.toInt = n ∧ K = 0 ∧ E = B) ∨
   (B.toInt < E.toInt ∧ (∀ i : Nat, B.toInt ≤ i → (i : Int) < E.toInt → qL n T i) ∧ ¬ qL n T E.toNatClampNeg ∧ (((g ∧ B.toInt = e) ∧ K = 4) ∨ (¬ (g ∧ B.toInt = e) ∧ K = 1))) ∨
   (B.toInt < E.toInt ∧ (∀ i : Nat, B.toInt ≤ i → (i : Int) < E.toInt → qD n T i) ∧ ¬ qD n T E.toNatClampNeg ∧ ((((g ∧ B.toInt = e) ∨ 4 < E.toInt - B.toInt) ∧ K = 4) ∨ (¬ ((g ∧ B.toInt = e) ∨ 4 < E.toInt - B.toInt) ∧ K = 2))) ∨
   (E.toInt = B.toInt + 1 ∧ ¬ qL n T B.toNatClampNeg ∧ ¬ qD n T B.toNatClampNeg ∧ ¬ T B.toNatClampNeg = 32 ∧ K = 3))
theorem qLD {n : Int} {T : Nat → Int32} {i : Nat} (h : qL n T i) (h' : qD n T i) : False := by
  have a := h.2.1
  have b := h'.2.2
  omega
theorem zt_32 : (32 : Int32).toInt = 32 := by decide
theorem tq_nb {n e : Int} {T : Nat → Int32} {g : Prop} {B E K : Int32} (h0 : 0 ≤ e) (h : tq n T e g B E K) : B.toInt = n ∨ ¬ T B.toNatClampNeg = 32 := by
  obtain ⟨h1, h2, h3, h4, h5⟩ := h
  have nb := ztn (i := B) (by omega)
  have e32 := zt_32
  rcases h5 with ⟨a, _⟩ | ⟨a, b, _⟩ | ⟨a, b, _⟩ | ⟨_, _, _, a, _⟩
  · exact Or.inl a
  · refine Or.inr (fun z => ?_)
    have c := (b B.toNatClampNeg (by omega) (by omega)).2.1
    rw [z] at c
    omega
  · refine Or.inr (fun z => ?_)
    have c := (b B.toNatClampNeg (by omega) (by omega)).2.1
    rw [z] at c
    omega
  · exact Or.inr a
theorem run_u {Q : Nat → Prop} {B E E' : Int32} (h0 : 0 ≤ B.toInt) (h1 : B.toInt < E.toInt) (h2 : ∀ i : Nat, B.toInt ≤ i → (i : Int) < E.toInt → Q i) (h3 : ¬ Q E.toNatClampNeg) (h1' : B.toInt < E'.toInt) (h2' : ∀ i : Nat, B.toInt ≤ i → (i : Int) < E'.toInt → Q i) (h3' : ¬ Q E'.toNatClampNeg) : E = E' := by
  have n1 := ztn (i := E) (by omega)
  have n2 := ztn (i := E') (by omega)
  refine Int32.toInt_inj.mp ?_
  rcases Int.lt_trichotomy E.toInt E'.toInt with c | c | c
  · exact absurd (h2' _ (by omega) (by omega)) h3
  · exact c
  · exact absurd (h2 _ (by omega) (by omega)) h3'
theorem tq_b {n e : Int} {T : Nat → Int32} {g : Prop} {B E K B' E' K' : Int32} (h0 : 0 ≤ e) (h : tq n T e g B E K) (h' : tq n T e g B' E' K') (c : B.toInt < B'.toInt) : False := by
  have hn := tq_nb h0 h
  obtain ⟨h1, h2, h3, h4, _⟩ := h
  obtain ⟨h1', h2', h3', h4', _⟩ := h'
  have nb := ztn (i := B) (by omega)
  rcases hn with d | d
  · omega
  · exact d (h4' _ (by omega) (by omega))
theorem tq_u {n e : Int} {T : Nat → Int32} {g : Prop} {B E K B' E' K' : Int32} (h0 : 0 ≤ e) (h : tq n T e g B E K) (h' : tq n T e g B' E' K') : B = B' ∧ E = E' ∧ K = K' := by
  have hb : B.toInt = B'.toInt := by
    rcases Int.lt_trichotomy B.toInt B'.toInt with c | c | c
    · exact absurd (tq_b h0 h h' c) id
    · exact c
    · exact absurd (tq_b h0 h' h c) id
  obtain rfl : B = B' := Int32.toInt_inj.mp hb
  obtain ⟨h1, h2, h3, h4, h5⟩ := h
  obtain ⟨h1', h2', h3', h4', h5'⟩ := h'
  have nb := ztn (i := B) (by omega)
  refine ⟨rfl, ?_⟩
  rcases h5 with ⟨a1, a2, a3⟩ | ⟨a1, a2, a3, a4⟩ | ⟨a1, a2, a3, a4⟩ | ⟨a1, a2, a3, a4, a5⟩
  · rcases h5' with ⟨b1, b2, b3⟩ | ⟨b1, b2, b3, b4⟩ | ⟨b1, b2, b3, b4⟩ | ⟨b1, b2, b3, b4, b5⟩
    · exact ⟨a3.trans b3.symm, a2.trans b2.symm⟩
    · omega
    · omega
    · omega
  · have q := a2 _ (Int.le_of_eq nb.symm) (by omega)
    rcases h5' with ⟨b1, b2, b3⟩ | ⟨b1, b2, b3, b4⟩ | ⟨b1, b2, b3, b4⟩ | ⟨b1, b2, b3, b4, b5⟩
    · omega
    · refine ⟨run_u (by omega) a1 a2 a3 b1 b2 b3, ?_⟩
      rcases a4 with ⟨x, y⟩ | ⟨x, y⟩
      · exact y.trans (b4.resolve_right (fun z => z.1 x)).2.symm
      · exact y.trans (b4.resolve_left (fun z => x z.1)).2.symm
    · exact absurd (qLD q (b2 _ (Int.le_of_eq nb.symm) (by omega))) id
    · exact absurd q b2
  · have q := a2 _ (Int.le_of_eq nb.symm) (by omega)
    rcases h5' with ⟨b1, b2, b3⟩ | ⟨b1, b2, b3, b4⟩ | ⟨b1, b2, b3, b4⟩ | ⟨b1, b2, b3, b4, b5⟩
    · omega
    · exact absurd (qLD (b2 _ (Int.le_of_eq nb.symm) (by omega)) q) id
    · obtain rfl : E = E' := run_u (by omega) a1 a2 a3 b1 b2 b3
      refine ⟨rfl, ?_⟩
      rcases a4 with ⟨x, y⟩ | ⟨x, y⟩
      · exact y.trans (b4.resolve_right (fun z => z.1 x)).2.symm
      · exact y.trans (b4.resolve_left (fun z => x z.1)).2.symm
    · exact absurd q b3
  · rcases h5' with ⟨b1, b2, b3⟩ | ⟨b1, b2, b3, b4⟩ | ⟨b1, b2, b3, b4⟩ | ⟨b1, b2, b3, b4, b5⟩
    · omega
    · exact absurd (b2 _ (Int.le_of_eq nb.symm) (by omega)) a2
    · exact absurd (b2 _ (Int.le_of_eq nb.symm) (by omega)) a3
    · exact ⟨Int32.toInt_inj.mp (by omega), a5.trans b5.symm⟩
theorem qL_e {n : Int} {T T' : Nat → Int32} {i : Nat} (h : ∀ i : Nat, (i : Int) < n → T i = T' i) : qL n T i ↔ qL n T' i := by
  unfold qL
  exact ⟨fun z => by rw [← h i z.1]; exact z, fun z => by rw [h i z.1]; exact z⟩
theorem qD_e {n : Int} {T T' : Nat → Int32} {i : Nat} (h : ∀ i : Nat, (i : Int) < n → T i = T' i) : qD n T i ↔ qD n T' i := by
  unfold qD
  exact ⟨fun z => by rw [← h i z.1]; exact z, fun z => by rw [h i z.1]; exact z⟩
theorem tq_e {n e : Int} {T T' : Nat → Int32} {g g' : Prop} {B E K : Int32} (h0 : 0 ≤ e) (ht : ∀ i : Nat, (i : Int) < n → T i = T' i) (hg : g ↔ g') (h : tq n T e g B E K) : tq n T' e g' B E K := by
  obtain ⟨h1, h2, h3, h4, h5⟩ := h
  have nb := ztn (i := B) (by omega)
  refine ⟨h1, h2, h3, fun i a b => (ht i (by omega)).symm.trans (h4 i a b), ?_⟩
  rw [← hg]
  rcases h5 with a | ⟨a1, a2, a3, a4⟩ | ⟨a1, a2, a3, a4⟩ | ⟨a1, a2, a3, a4, a5⟩
  · exact Or.inl a
  · exact Or.inr (Or.inl ⟨a1, fun i x y => (qL_e ht).mp (a2 i x y), fun z => a3 ((qL_e ht).mpr z), a4⟩)
  · exact Or.inr (Or.inr (Or.inl ⟨a1, fun i x y => (qD_e ht).mp (a2 i x y), fun z => a3 ((qD_e ht).mpr z), a4⟩))
  · exact Or.inr (Or.inr (Or.inr ⟨a1, fun z => a2 ((qL_e ht).mpr z), fun z => a3 ((qD_e ht).mpr z), by rw [← ht _ (by omega)]; exact a4, a5⟩))
/-- the reference's next word -/
theorem nQ_tq {σ : zg_S} {B E K N C : Int32} (h : nQ σ B E K N C) : tq (σ 0 14).toInt (σ 13) (σ 0 16).toInt (0 < (σ 0 16).toInt ∧ (σ 0 17 = 1 ∨ σ 0 17 = 2)) B E K := by
  obtain ⟨h1, h2, h3, h4, h5⟩ := h
  have ht : tg σ B ↔ ((0 < (σ 0 16).toInt ∧ (σ 0 17 = 1 ∨ σ 0 17 = 2)) ∧ B.toInt = (σ 0 16).toInt) := ⟨fun z => ⟨⟨z.1, z.2.1⟩, congrArg Int32.toInt z.2.2⟩, fun z => ⟨z.1.1, z.1.2, Int32.toInt_inj.mp z.2⟩⟩
  rw [ht] at h5
  refine ⟨h1, h2, h3, h4, ?_⟩
  rcases h5 with a | ⟨a1, a2, a3, a4, _⟩ | ⟨a1, a2, a3, _, a4⟩ | ⟨a1, a2, a3, a4, a5, _⟩
  · exact Or.inl a
  · exact Or.inr (Or.inl ⟨a1, a2, a3, a4⟩)
  · exact Or.inr (Or.inr (Or.inl ⟨a1, a2, a3, a4⟩))
  · exact Or.inr (Or.inr (Or.inr ⟨a1, a2, a3, a4, a5⟩))
/-! the class's way to it -/
def cl (n : Int) (T : Nat → Int32) (r : Int32) (i : Nat) : Prop := (r = 0 ∧ n ≤ i) ∨ (r = 1 ∧ qL n T i) ∨ (r = 2 ∧ qD n T i) ∨ (r = 3 ∧ (i : Int) < n ∧ ¬ qL n T i ∧ ¬ qD n T i)
theorem a_sortAt (a : Int32) (σ : zg_S) (h0 : 0 ≤ a.toInt) (hn : (σ 7 2).toInt ≤ 96) : zk (f_X1_sortAt a σ) (fun r s => σ = s ∧ cl (σ 7 2).toInt (σ 6) r a.toNatClampNeg) := by
  have na := ztn h0
  have e0 := zt_0
  have e97 := zt_97
  have e122 := zt_122
  have e48 := zt_48
  have e57 := zt_57
  have hb : a.toInt < (σ 7 2).toInt → ¬ qL (σ 7 2).toInt (σ 6) a.toNatClampNeg → zk (B_X1_sortAt_35 a (σ 6 a.toNatClampNeg) σ) (fun r s => σ = s ∧ cl (σ 7 2).toInt (σ 6) r a.toNatClampNeg) := fun hl hL => by
    unfold B_X1_sortAt_35
    refine zk_ite (fun h => ?_) (fun h => zk_ite (fun h2 => ?_) (fun h2 => ?_))
    · have g := zlt h
      exact zk_some ⟨rfl, Or.inr (Or.inr (Or.inr ⟨rfl, by omega, hL, fun z => by have := z.2.1; omega⟩))⟩
    · have g := zlt h2
      exact zk_some ⟨rfl, Or.inr (Or.inr (Or.inr ⟨rfl, by omega, hL, fun z => by have := z.2.2; omega⟩))⟩
    · have g := znlt h
      have g2 := znlt h2
      exact zk_some ⟨rfl, Or.inr (Or.inr (Or.inl ⟨rfl, by omega, by omega, by omega⟩))⟩
  unfold f_X1_sortAt
  refine zk_ite (fun h => ?_) (fun _ => zk_ite (fun h => ?_) (fun h => ?_))
  · have g := zlt h
    omega
  · have g := zlt h
    refine zk_in (zin_mk h0 (by omega)) ?_
    refine zk_ite (fun h1 => ?_) (fun h1 => zk_ite (fun h2 => ?_) (fun h2 => ?_))
    · have g1 := zlt h1
      exact hb g (fun z => by have := z.2.1; omega)
    · have g1 := zlt h2
      exact hb g (fun z => by have := z.2.2; omega)
    · have g1 := znlt h1
      have g2 := znlt h2
      exact zk_some ⟨rfl, Or.inr (Or.inl ⟨rfl, by omega, by omega, by omega⟩)⟩
  · have g := znlt h
    exact zk_some ⟨rfl, Or.inl ⟨rfl, by omega⟩⟩
theorem a210 (x y : Int32) (s : zg_S) : zk (B_X1_advance_210 x y s) (fun _ u => u 7 4 = s 7 4 ∧ u 7 5 = s 7 5 ∧ (((x = 0 ∧ y = 0) ∧ u 7 3 = s 7 3) ∨ (¬ (x = 0 ∧ y = 0) ∧ u 7 3 = 4))) := by
  have b : ¬ (x = 0 ∧ y = 0) → zk (B_X1_advance_221 s) (fun _ u => u 7 4 = s 7 4 ∧ u 7 5 = s 7 5 ∧ (((x = 0 ∧ y = 0) ∧ u 7 3 = s 7 3) ∨ (¬ (x = 0 ∧ y = 0) ∧ u 7 3 = 4))) := fun hn => by
    unfold B_X1_advance_221
    refine zk_let (fun u q => ?_)
    exact zk_some ⟨by rw [q]; exact zkeepf rfl, by rw [q]; exact zkeepf rfl, Or.inr ⟨hn, by rw [q]; exact zgot⟩⟩
  unfold B_X1_advance_210
  exact zk_ite (fun h => zk_ite (fun h2 => zk_some ⟨rfl, rfl, Or.inl ⟨⟨h, h2⟩, rfl⟩⟩) (fun h2 => b (fun z => h2 z.2))) (fun h => b (fun z => h z.1))
theorem a183 (y : Int32) (s : zg_S) (h4 : 0 ≤ (s 7 4).toInt) (h5 : 0 ≤ (s 7 5).toInt) : zk (B_X1_advance_183 y s) (fun _ u => u 7 4 = s 7 4 ∧ u 7 5 = s 7 5 ∧ (((y = 0 ∧ ¬ (s 7 3 = 2 ∧ 4 < (s 7 5).toInt - (s 7 4).toInt)) ∧ u 7 3 = s 7 3) ∨ ((¬ y = 0 ∨ (s 7 3 = 2 ∧ 4 < (s 7 5).toInt - (s 7 4).toInt)) ∧ u 7 3 = 4))) := by
  have e4 := zt_4
  have es := zsubn (s 7 5) (s 7 4) h5 h4
  unfold B_X1_advance_183 B_X1_advance_209
  refine zk_ite (fun h => zk_ite (fun h2 => ?_) (fun h2 => ?_)) (fun h => ?_)
  · have g := zle h2
    refine zk_mono (a210 y 0 s) (fun r u hp => ⟨hp.1, hp.2.1, ?_⟩)
    rcases hp.2.2 with ⟨⟨a, -⟩, b⟩ | ⟨a, b⟩
    · exact Or.inl ⟨⟨a, fun z => by have := z.2; omega⟩, b⟩
    · exact Or.inr ⟨Or.inl (fun z => a ⟨z, rfl⟩), b⟩
  · have g := znle h2
    refine zk_mono (a210 y 1 s) (fun r u hp => ⟨hp.1, hp.2.1, ?_⟩)
    rcases hp.2.2 with ⟨⟨-, a⟩, b⟩ | ⟨a, b⟩
    · exact absurd a (by decide)
    · exact Or.inr ⟨Or.inr ⟨h, by omega⟩, b⟩
  · refine zk_mono (a210 y 0 s) (fun r u hp => ⟨hp.1, hp.2.1, ?_⟩)
    rcases hp.2.2 with ⟨⟨a, -⟩, b⟩ | ⟨a, b⟩
    · exact Or.inl ⟨⟨a, fun z => h z.1⟩, b⟩
    · exact Or.inr ⟨Or.inl (fun z => a ⟨z, rfl⟩), b⟩
def aG (σ : zg_S) : Prop := σ 7 3 = 1 ∨ σ 7 3 = 2
def AQ (σ : zg_S) (_ : Int32) (s : zg_S) : Prop := tq (σ 7 2).toInt (σ 6) (σ 7 5).toInt (aG σ) (s 7 4) (s 7 5) (s 7 3)
def aR (σ : zg_S) (r B E : Int32) : Prop := (r = 1 ∧ (∀ i : Nat, B.toInt ≤ i → (i : Int) < E.toInt → qL (σ 7 2).toInt (σ 6) i)) ∨ (r = 2 ∧ (∀ i : Nat, B.toInt ≤ i → (i : Int) < E.toInt → qD (σ 7 2).toInt (σ 6) i)) ∨ (r = 3 ∧ E.toInt = B.toInt + 1 ∧ ¬ qL (σ 7 2).toInt (σ 6) B.toNatClampNeg ∧ ¬ qD (σ 7 2).toInt (σ 6) B.toNatClampNeg ∧ ¬ σ 6 B.toNatClampNeg = 32)
theorem afin (x1 B E r : Int32) (σ t : zg_S) (hx : (x1 = 1 ∧ aG σ) ∨ (x1 = 0 ∧ ¬ aG σ)) (t3 : t 7 3 = r) (t4 : t 7 4 = B) (t5 : t 7 5 = E) (e0 : 0 ≤ (σ 7 5).toInt) (h1 : (σ 7 5).toInt ≤ B.toInt) (h2 : ∀ i : Nat, (σ 7 5).toInt ≤ i → (i : Int) < B.toInt → σ 6 i = 32) (h3 : B.toInt < E.toInt) (h4 : E.toInt ≤ (σ 7 2).toInt) (hr : aR σ r B E) (hL : r = 1 → ¬ qL (σ 7 2).toInt (σ 6) E.toNatClampNeg) (hD : r = 2 → ¬ qD (σ 7 2).toInt (σ 6) E.toNatClampNeg) : zk (B_X1_advance_158 x1 (σ 7 5) t) (AQ σ) := by
  have yy : ∀ y : Int32, ((y = 0 ∧ (r = 3 ∨ ¬ (aG σ ∧ B.toInt = (σ 7 5).toInt))) ∨ (¬ y = 0 ∧ ¬ r = 3 ∧ aG σ ∧ B.toInt = (σ 7 5).toInt)) → zk (B_X1_advance_183 y t) (AQ σ) := fun y hy => by
    refine zk_mono (a183 y t (by rw [t4]; omega) (by rw [t5]; omega)) (fun _ u hp => ?_)
    obtain ⟨p4, p5, p3⟩ := hp
    rw [t3, t4, t5] at p3
    unfold AQ
    rw [p4, p5, t4, t5]
    refine ⟨h1, by omega, h4, h2, ?_⟩
    rcases hr with ⟨rfl, q⟩ | ⟨rfl, q⟩ | ⟨rfl, q1, q2, q3, q4⟩
    · refine Or.inr (Or.inl ⟨h3, q, hL rfl, ?_⟩)
      rcases p3 with ⟨⟨a, b⟩, c⟩ | ⟨a, c⟩
      · refine Or.inr ⟨?_, c⟩
        rcases hy with ⟨_, hy⟩ | ⟨hy, _⟩
        · exact hy.resolve_left (by decide)
        · exact absurd a hy
      · refine Or.inl ⟨?_, c⟩
        have a' := a.resolve_right (fun z => absurd z.1 (by decide))
        rcases hy with ⟨hy, _⟩ | ⟨_, _, hy⟩
        · exact absurd hy a'
        · exact hy
    · refine Or.inr (Or.inr (Or.inl ⟨h3, q, hD rfl, ?_⟩))
      rcases p3 with ⟨⟨a, b⟩, c⟩ | ⟨a, c⟩
      · refine Or.inr ⟨?_, c⟩
        rcases hy with ⟨_, hy⟩ | ⟨hy, _⟩
        · exact fun z => z.elim (hy.resolve_left (by decide)) (fun z => b ⟨rfl, z⟩)
        · exact absurd a hy
      · refine Or.inl ⟨?_, c⟩
        rcases a with a | a
        · rcases hy with ⟨hy, _⟩ | ⟨_, _, hy⟩
          · exact absurd hy a
          · exact Or.inl hy
        · exact Or.inr a.2
    · refine Or.inr (Or.inr (Or.inr ⟨q1, q2, q3, q4, ?_⟩))
      rcases p3 with ⟨_, c⟩ | ⟨a, c⟩
      · exact c
      · have a' := a.resolve_right (fun z => absurd z.1 (by decide))
        rcases hy with ⟨hy, _⟩ | ⟨_, hy, _⟩
        · exact absurd hy a'
        · exact absurd rfl hy
  unfold B_X1_advance_158 B_X1_advance_182
  refine zk_ite (fun h => ?_) (fun h => zk_ite (fun h' => ?_) (fun h' => zk_ite (fun h'' => ?_) (fun h'' => ?_)))
  · rcases hx with hx | hx
    · exact absurd (hx.1.symm.trans h) (by decide)
    · exact yy 0 (Or.inl ⟨rfl, Or.inr (fun z => hx.2 z.1)⟩)
  · exact yy 0 (Or.inl ⟨rfl, Or.inl (t3.symm.trans h')⟩)
  · rcases hx with hx | hx
    · rw [t3] at h'
      rw [t4] at h''
      exact yy 1 (Or.inr ⟨by decide, h', hx.2, congrArg Int32.toInt h''⟩)
    · exact absurd hx.1 h
  · rw [t4] at h''
    exact yy 0 (Or.inl ⟨rfl, Or.inr (fun z => h'' (Int32.toInt_inj.mp z.2))⟩)
theorem a111 (x1 B r : Int32) (σ s : zg_S) (hx : (x1 = 1 ∧ aG σ) ∨ (x1 = 0 ∧ ¬ aG σ)) (hn : (σ 7 2).toInt ≤ 96) (s6 : s 6 = σ 6) (s2 : s 7 2 = σ 7 2) (s3 : s 7 3 = r) (s4 : s 7 4 = B) (s5 : (s 7 5).toInt = B.toInt + 1) (e0 : 0 ≤ (σ 7 5).toInt) (h1 : (σ 7 5).toInt ≤ B.toInt) (h2 : ∀ i : Nat, (σ 7 5).toInt ≤ i → (i : Int) < B.toInt → σ 6 i = 32) (h4 : B.toInt < (σ 7 2).toInt) (hb : ¬ σ 6 B.toNatClampNeg = 32) (hc : cl (σ 7 2).toInt (σ 6) r B.toNatClampNeg) : zk (L_X1_advance_111 zfu x1 (σ 7 5) s) (AQ σ) := by
  have e1 := zt_1
  have nb := ztn (i := B) (by omega)
  have hr : aR σ r B (s 7 5) := by
    rcases hc with ⟨_, z⟩ | ⟨rfl, z⟩ | ⟨rfl, z⟩ | ⟨rfl, z1, z2, z3⟩
    · omega
    · exact Or.inl ⟨rfl, fun i a b => by rw [show i = B.toNatClampNeg by omega]; exact z⟩
    · exact Or.inr (Or.inl ⟨rfl, fun i a b => by rw [show i = B.toNatClampNeg by omega]; exact z⟩)
    · exact Or.inr (Or.inr ⟨rfl, s5, z2, z3, hb⟩)
  unfold L_X1_advance_111
  refine zl_II (fun (y1 y2 : Int32) (t : zg_S) => y1 = x1 ∧ y2 = σ 7 5 ∧ t 6 = σ 6 ∧ t 7 2 = σ 7 2 ∧ t 7 3 = r ∧ t 7 4 = B ∧ B.toInt < (t 7 5).toInt ∧ (t 7 5).toInt ≤ (σ 7 2).toInt ∧ aR σ r B (t 7 5)) (fun (_ _ : Int32) (t : zg_S) => (97 - (t 7 5).toInt).toNat) ?_ zfu _ _ _ ⟨rfl, rfl, s6, s2, s3, s4, by omega, by omega, hr⟩ (by unfold zfu; show (97 - (s 7 5).toInt).toNat < 100000; omega)
  intro rec y1 y2 t hI ih
  obtain ⟨rfl, rfl, t6, t2, t3, t4, i1, i2, i3⟩ := hI
  have ne := ztn (i := t 7 5) (by omega)
  unfold B_X1_advance_111
  rw [t3, t2]
  refine zk_ite (fun h => ?_) (fun h => zk_ite (fun h' => ?_) (fun h' => ?_))
  · exact afin y1 B (t 7 5) r σ t hx t3 t4 rfl e0 h1 h2 i1 i2 i3 (fun z => absurd (z.symm.trans h) (by decide)) (fun z => absurd (z.symm.trans h) (by decide))
  · have g := zle h'
    exact afin y1 B (t 7 5) r σ t hx t3 t4 rfl e0 h1 h2 i1 i2 i3 (fun _ z => by have := z.1; omega) (fun _ z => by have := z.1; omega)
  · have g := znle h'
    refine zk_call (a_sortAt (t 7 5) t (by omega) (by rw [t2]; exact hn)) (fun r' u hp => ?_)
    obtain ⟨rfl, hc'⟩ := hp
    rw [t2, t6] at hc'
    refine zk_ite (fun hq => ?_) (fun hq => ?_)
    · rw [t3] at hq
      subst hq
      refine zk_let (fun u q => ?_)
      have ex := zTe (zTadd (zTs (t 7 5)) (zTl zt_1) (by omega) (by omega))
      have u5 : (u 7 5).toInt = (t 7 5).toInt + 1 := by rw [q]; exact (congrArg Int32.toInt zgot).trans ex
      refine ih y1 _ u ⟨rfl, rfl, by rw [q]; exact (zg_row_ne (by decide)).trans t6, by rw [q]; exact (zkeepf rfl).trans t2, by rw [q]; exact (zkeepf rfl).trans t3, by rw [q]; exact (zkeepf rfl).trans t4, by omega, by omega, ?_⟩ (by show (97 - (u 7 5).toInt).toNat < (97 - (t 7 5).toInt).toNat; omega)
      rcases i3 with ⟨rfl, z⟩ | ⟨rfl, z⟩ | ⟨rfl, _⟩
      · refine Or.inl ⟨rfl, fun i a b => ?_⟩
        by_cases c : (i : Int) < (t 7 5).toInt
        · exact z i a c
        · rw [show i = (t 7 5).toNatClampNeg by omega]
          rcases hc' with ⟨k, _⟩ | ⟨_, k⟩ | ⟨k, _⟩ | ⟨k, _⟩
          · exact absurd k (by decide)
          · exact k
          · exact absurd k (by decide)
          · exact absurd k (by decide)
      · refine Or.inr (Or.inl ⟨rfl, fun i a b => ?_⟩)
        by_cases c : (i : Int) < (t 7 5).toInt
        · exact z i a c
        · rw [show i = (t 7 5).toNatClampNeg by omega]
          rcases hc' with ⟨k, _⟩ | ⟨k, _⟩ | ⟨_, k⟩ | ⟨k, _⟩
          · exact absurd k (by decide)
          · exact absurd k (by decide)
          · exact k
          · exact absurd k (by decide)
      · exact absurd rfl h
    · rw [t3] at hq
      refine afin y1 B (t 7 5) r σ t hx t3 t4 rfl e0 h1 h2 i1 i2 i3 (fun e z => hq ?_) (fun e z => hq ?_)
      · rcases hc' with ⟨_, k⟩ | ⟨k, _⟩ | ⟨_, k⟩ | ⟨_, _, k, _⟩
        · have := z.1; omega
        · exact k.trans e.symm
        · exact absurd (qLD z k) id
        · exact absurd z k
      · rcases hc' with ⟨_, k⟩ | ⟨_, k⟩ | ⟨k, _⟩ | ⟨_, _, _, k⟩
        · have := z.1; omega
        · exact absurd (qLD k z) id
        · exact k.trans e.symm
        · exact absurd z k
theorem a73 (x1 : Int32) (σ s : zg_S) (hx : (x1 = 1 ∧ aG σ) ∨ (x1 = 0 ∧ ¬ aG σ)) (hn : (σ 7 2).toInt ≤ 96) (s6 : s 6 = σ 6) (s2 : s 7 2 = σ 7 2) (e0 : 0 ≤ (σ 7 5).toInt) (h1 : (σ 7 5).toInt ≤ (s 7 4).toInt) (h2 : ∀ i : Nat, (σ 7 5).toInt ≤ i → (i : Int) < (s 7 4).toInt → σ 6 i = 32) (h3 : (s 7 4).toInt ≤ (σ 7 2).toInt) (hb : (s 7 4).toInt = (σ 7 2).toInt ∨ ¬ σ 6 (s 7 4).toNatClampNeg = 32) : zk (B_X1_advance_73 x1 (σ 7 5) s) (AQ σ) := by
  have e1 := zt_1
  have nb := ztn (i := s 7 4) (by omega)
  unfold B_X1_advance_73
  refine zk_let (fun t q => ?_)
  have t6 : t 6 = σ 6 := by rw [q]; exact (zg_row_ne (by decide)).trans s6
  have t2 : t 7 2 = σ 7 2 := by rw [q]; exact (zkeepf rfl).trans s2
  have t4 : t 7 4 = s 7 4 := by rw [q]; exact zkeepf rfl
  have t5 : t 7 5 = s 7 4 := by rw [q]; exact zgot
  refine zk_call (a_sortAt (t 7 4) t (by rw [t4]; omega) (by rw [t2]; exact hn)) (fun r t' hp => ?_)
  obtain ⟨rfl, hc⟩ := hp
  rw [t2, t6, t4] at hc
  refine zk_let (fun u q => ?_)
  have u6 : u 6 = σ 6 := by rw [q]; exact (zg_row_ne (by decide)).trans t6
  have u2 : u 7 2 = σ 7 2 := by rw [q]; exact (zkeepf rfl).trans t2
  have u3 : u 7 3 = r := by rw [q]; exact zgot
  have u4 : u 7 4 = s 7 4 := by rw [q]; exact (zkeepf rfl).trans t4
  have u5 : u 7 5 = s 7 4 := by rw [q]; exact (zkeepf rfl).trans t5
  rw [u3]
  refine zk_ite (fun h => zk_some ?_) (fun h => ?_)
  · unfold AQ
    rw [u4, u5, u3]
    refine ⟨h1, Int.le_refl _, h3, h2, Or.inl ⟨?_, h, rfl⟩⟩
    rcases hc with ⟨_, k⟩ | ⟨k, _⟩ | ⟨k, _⟩ | ⟨k, _⟩
    · omega
    · exact absurd (k.symm.trans h) (by decide)
    · exact absurd (k.symm.trans h) (by decide)
    · exact absurd (k.symm.trans h) (by decide)
  · have hlt : (s 7 4).toInt < (σ 7 2).toInt := by
      rcases hc with ⟨k, _⟩ | ⟨_, k⟩ | ⟨_, k⟩ | ⟨_, k, _⟩
      · exact absurd k h
      · have := k.1; omega
      · have := k.1; omega
      · omega
    refine zk_let (fun v q => ?_)
    rw [u5] at q
    have ex := zTe (zTadd (zTs (s 7 4)) (zTl zt_1) (by omega) (by omega))
    exact a111 x1 (s 7 4) r σ v hx hn (by rw [q]; exact (zg_row_ne (by decide)).trans u6) (by rw [q]; exact (zkeepf rfl).trans u2) (by rw [q]; exact (zkeepf rfl).trans u3) (by rw [q]; exact (zkeepf rfl).trans u4) (by rw [q]; exact (congrArg Int32.toInt zgot).trans ex) e0 h1 h2 hlt (hb.resolve_left (by omega)) hc
theorem a21 (x1 : Int32) (σ : zg_S) (hx : (x1 = 1 ∧ aG σ) ∨ (x1 = 0 ∧ ¬ aG σ)) (hn : (σ 7 2).toInt ≤ 96) (e0 : 0 ≤ (σ 7 5).toInt) (h3 : (σ 7 5).toInt ≤ (σ 7 2).toInt) : zk (B_X1_advance_21 x1 σ) (AQ σ) := by
  have e1 := zt_1
  unfold B_X1_advance_21
  refine zk_let (fun s q => ?_)
  have s6 : s 6 = σ 6 := by rw [q]; exact zg_row_ne (by decide)
  have s2 : s 7 2 = σ 7 2 := by rw [q]; exact zkeepf rfl
  have s4 : s 7 4 = σ 7 5 := by rw [q]; exact zgot
  unfold L_X1_advance_35
  refine zl_II (fun (y1 y2 : Int32) (t : zg_S) => y1 = x1 ∧ y2 = σ 7 5 ∧ t 6 = σ 6 ∧ t 7 2 = σ 7 2 ∧ (σ 7 5).toInt ≤ (t 7 4).toInt ∧ (t 7 4).toInt ≤ (σ 7 2).toInt ∧ ∀ i : Nat, (σ 7 5).toInt ≤ i → (i : Int) < (t 7 4).toInt → σ 6 i = 32) (fun (_ _ : Int32) (t : zg_S) => (97 - (t 7 4).toInt).toNat) ?_ zfu _ _ _ ⟨rfl, rfl, s6, s2, by rw [s4]; exact Int.le_refl _, by rw [s4]; exact h3, fun i a b => by rw [s4] at b; omega⟩ (by unfold zfu; show (97 - (s 7 4).toInt).toNat < 100000; rw [s4]; omega)
  intro rec y1 y2 t hI ih
  obtain ⟨rfl, rfl, t6, t2, i1, i2, i3⟩ := hI
  have nb := ztn (i := t 7 4) (by omega)
  unfold B_X1_advance_35
  rw [t2, t6]
  refine zk_ite (fun h => ?_) (fun h => ?_)
  · have g := zle h
    exact a73 y1 σ t hx hn t6 t2 e0 i1 i3 i2 (Or.inl (by omega))
  · have g := znle h
    refine zk_in (zin_mk (by omega) (by omega)) ?_
    refine zk_ite (fun h' => ?_) (fun h' => a73 y1 σ t hx hn t6 t2 e0 i1 i3 i2 (Or.inr h'))
    refine zk_let (fun u q => ?_)
    have ex := zTe (zTadd (zTs (t 7 4)) (zTl zt_1) (by omega) (by omega))
    have u4 : (u 7 4).toInt = (t 7 4).toInt + 1 := by rw [q]; exact (congrArg Int32.toInt zgot).trans ex
    refine ih y1 _ u ⟨rfl, rfl, by rw [q]; exact (zg_row_ne (by decide)).trans t6, by rw [q]; exact (zkeepf rfl).trans t2, by omega, by omega, fun i a b => ?_⟩ (by show (97 - (u 7 4).toInt).toNat < (97 - (t 7 4).toInt).toNat; omega)
    by_cases c : (i : Int) < (t 7 4).toInt
    · exact i3 i a c
    · rw [show i = (t 7 4).toNatClampNeg by omega]
      exact h'
theorem a_adv (σ : zg_S) (hn : (σ 7 2).toInt ≤ 96) (e0 : 0 ≤ (σ 7 5).toInt) (h3 : (σ 7 5).toInt ≤ (σ 7 2).toInt) : zk (f_X1_advance σ) (fun r s => AQ σ r s ∧ wr W_X1_advance σ s) := by
  refine zk_w ?_ (w_X1_advance σ)
  unfold f_X1_advance B_X1_advance_16
  refine zk_ite (fun h => a21 1 σ (Or.inl ⟨rfl, Or.inl h⟩) hn e0 h3) (fun h => zk_ite (fun h' => a21 1 σ (Or.inl ⟨rfl, Or.inr h'⟩) hn e0 h3) (fun h' => a21 0 σ (Or.inr ⟨rfl, fun z => z.elim h h'⟩) hn e0 h3))
end
section
/-! both readers, side by side -/
theorem z2_cc {o o' : Option (Int32 × zg_S)} {k k' : Int32 → zg_S → Option (Int32 × zg_S)} {Q P : Int32 → zg_S → Int32 → zg_S → Prop} (h : z2 o o' Q) (hk : ∀ r s r' t, Q r s r' t → z2 (k r s) (k' r' t) P) : z2 (zbd o k) (zbd o' k') P := by
  obtain ⟨r, s, r', t, rfl, rfl, q⟩ := h
  exact hk r s r' t q
/-- what the reference holds of the piece -/
def tok (τ : zg_S) : Prop :=
  (τ 0 17 = 1 → (∀ i : Nat, (τ 0 15).toInt ≤ i → (i : Int) < (τ 0 16).toInt → qL (τ 0 14).toInt (τ 13) i) ∧ (((τ 0 16).toInt = (τ 0 15).toInt + 1 ∧ τ 0 19 = τ 13 (τ 0 15).toNatClampNeg) ∨ (¬ (τ 0 16).toInt = (τ 0 15).toInt + 1 ∧ τ 0 19 = 0))) ∧
  (τ 0 17 = 2 → (∀ i : Nat, (τ 0 15).toInt ≤ i → (i : Int) < (τ 0 16).toInt → qD (τ 0 14).toInt (τ 13) i) ∧ (τ 0 16).toInt - (τ 0 15).toInt ≤ 4 ∧ τ 0 18 = nv (τ 13) (τ 0 15).toNatClampNeg ((τ 0 16).toInt - (τ 0 15).toInt).toNat) ∧
  (τ 0 17 = 3 → (τ 0 16).toInt = (τ 0 15).toInt + 1 ∧ τ 0 19 = τ 13 (τ 0 15).toNatClampNeg)
/-- both stand at the same piece -/
def TK (σ τ : zg_S) : Prop := σ 7 4 = τ 0 15 ∧ σ 7 3 = τ 0 17 ∧ σ 7 5 = τ 0 16 ∧ 0 ≤ (τ 0 15).toInt ∧ (τ 0 15).toInt ≤ (τ 0 16).toInt ∧ (τ 0 16).toInt ≤ (τ 0 14).toInt ∧ (τ 0 17 = 0 ∨ (τ 0 15).toInt < (τ 0 16).toInt) ∧ tok τ
def TP (σ τ : zg_S) : Prop := σ 7 2 = τ 0 14 ∧ ∀ i : Nat, (i : Int) < (τ 0 14).toInt → σ 6 i = τ 13 i
def TG (σ τ : zg_S) : Prop := aG σ ↔ (0 < (τ 0 16).toInt ∧ (τ 0 17 = 1 ∨ τ 0 17 = 2))
theorem TK.tg {σ τ : zg_S} (h : TK σ τ) : TG σ τ := by
  obtain ⟨_, h2, _, h4, h5, _, h7, _⟩ := h
  unfold TG aG
  rw [h2]
  refine ⟨fun z => ⟨?_, z⟩, fun z => z.2⟩
  rcases h7 with h7 | h7
  · rw [h7] at z
    exact absurd z (by decide)
  · omega
theorem z2_adv0 {σ τ : zg_S} {P : Int32 → zg_S → Int32 → zg_S → Prop} {k k' : Int32 → zg_S → Option (Int32 × zg_S)} (hm : IMc τ) (h1 : (τ 0 16).toInt ≤ (τ 0 14).toInt) (hp : TP σ τ) (h5 : σ 7 5 = τ 0 16) (hg : TG σ τ) (hk : ∀ r s r' t, wr W_X1_advance σ s → tk τ t → IMc t → TK s t → TP s t → (τ 0 16).toInt ≤ (t 0 15).toInt → z2 (k r s) (k' r' t) P) : z2 (zbd (f_X1_advance σ) k) (zbd (f_X7_nextToken τ) k') P := by
  have f14 : 0 ≤ (τ 0 14).toInt ∧ (τ 0 14).toInt ≤ 96 := hm 0 14
  have f16 : 0 ≤ (τ 0 16).toInt ∧ (τ 0 16).toInt ≤ 96 := hm 0 16
  refine z2_cL (a_adv σ (by rw [hp.1]; omega) (by rw [h5]; omega) (by rw [h5, hp.1]; exact h1)) (fun r s hs => ?_)
  refine z2_cR (s_X7_nextToken τ hm h1) (fun r' t ht => ?_)
  obtain ⟨ha, hw⟩ := hs
  obtain ⟨it, kt, hq⟩ := ht
  unfold AQ at ha
  rw [h5, hp.1] at ha
  have hc := tq_e f16.1 hp.2 hg ha
  obtain ⟨eB, eE, eK⟩ := tq_u f16.1 hc (nQ_tq hq)
  obtain ⟨n1, n2, n3, n4, n5⟩ := hq
  have kn := kt.n
  have kT := kt.t
  have h01 : ¬ (0 : Int32) = 1 := by decide
  refine hk r s r' t hw kt it ⟨eB, eK, eE, by omega, n2, by rw [kn]; exact n3, ?_, ?_⟩ ⟨(hw 7 2 (by unfold W_X1_advance; omega)).trans (hp.1.trans kn.symm), fun i hi => ?_⟩ n1
  · rcases n5 with ⟨_, n5, _⟩ | ⟨n5, _⟩ | ⟨n5, _⟩ | ⟨n5, _⟩
    · exact Or.inl n5
    · exact Or.inr n5
    · exact Or.inr n5
    · exact Or.inr (by omega)
  · unfold tok
    rw [kn, kT]
    refine ⟨fun hK => ?_, fun hK => ?_, fun hK => ?_⟩
    · rcases n5 with ⟨_, x, _⟩ | ⟨_, x, _, _, y⟩ | ⟨_, _, _, _, x⟩ | ⟨_, _, _, _, x, _⟩
      · exact absurd (x.symm.trans hK) (by decide)
      · exact ⟨x, y⟩
      · rcases x with x | x
        · exact absurd (x.2.symm.trans hK) (by decide)
        · exact absurd (x.2.symm.trans hK) (by decide)
      · exact absurd (x.symm.trans hK) (by decide)
    · rcases n5 with ⟨_, x, _⟩ | ⟨_, _, _, x, _⟩ | ⟨_, x, _, y, z⟩ | ⟨_, _, _, _, x, _⟩
      · exact absurd (x.symm.trans hK) (by decide)
      · rcases x with x | x
        · exact absurd (x.2.symm.trans hK) (by decide)
        · exact absurd (x.2.symm.trans hK) (by decide)
      · rcases z with z | z
        · exact absurd (z.2.symm.trans hK) (by decide)
        · have h4 : ¬ 4 < (t 0 16).toInt - (t 0 15).toInt := fun w => z.1 (Or.inr w)
          refine ⟨x, by omega, ?_⟩
          rw [show min 4 ((t 0 16).toInt - (t 0 15).toInt).toNat = ((t 0 16).toInt - (t 0 15).toInt).toNat by omega] at y
          exact y
      · exact absurd (x.symm.trans hK) (by decide)
    · rcases n5 with ⟨_, x, _⟩ | ⟨_, _, _, x, _⟩ | ⟨_, _, _, _, x⟩ | ⟨x, _, _, _, _, y⟩
      · exact absurd (x.symm.trans hK) (by decide)
      · rcases x with x | x
        · exact absurd (x.2.symm.trans hK) (by decide)
        · exact absurd (x.2.symm.trans hK) (by decide)
      · rcases x with x | x
        · exact absurd (x.2.symm.trans hK) (by decide)
        · exact absurd (x.2.symm.trans hK) (by decide)
      · exact ⟨x, y⟩
  · rw [kn] at hi
    rw [kT]
    exact (hw 6 i (by unfold W_X1_advance; omega)).trans (hp.2 i hi)
/-- the same steps so far -/
def SP (key : Int32) (σ τ : zg_S) : Prop := σ 8 0 = key ∧ σ 8 2 = τ 0 22 ∧ ∀ i : Nat, (i : Int) < (τ 0 22).toInt → SR key (σ 9 i) (τ 1 (mb τ + 2 * i)) (τ 1 (mb τ + 2 * i + 1))
def OP (σ τ : zg_S) : Prop := σ 7 6 = τ 0 20 ∧ σ 7 7 = τ 0 21
def PR (key : Int32) (σ τ : zg_S) : Prop := PS τ ∧ TK σ τ ∧ TP σ τ ∧ SP key σ τ ∧ OP σ τ ∧ σ 8 1 = τ 0 24
theorem SP.k {key : Int32} {σ s τ t : zg_S} (h : SP key σ τ) (a : ∀ k, s 8 k = σ 8 k) (b : ∀ k, s 9 k = σ 9 k) (c : t 0 22 = τ 0 22) (d : t 0 23 = τ 0 23) (e : t 1 = τ 1) : SP key s t := by
  have hm : mb t = mb τ := congrArg Int32.toNatClampNeg d
  refine ⟨(a 0).trans h.1, (a 2).trans (h.2.1.trans c.symm), fun i hi => ?_⟩
  rw [c] at hi
  rw [b, e, hm]
  exact h.2.2 i hi
theorem z2_adv {key : Int32} {σ τ : zg_S} {P : Int32 → zg_S → Int32 → zg_S → Prop} {k k' : Int32 → zg_S → Option (Int32 × zg_S)} (hm : IMc τ) (hb : sB τ) (h1 : (τ 0 16).toInt ≤ (τ 0 14).toInt) (h2 : (τ 0 22).toInt ≤ (τ 0 16).toInt) (ho : 0 ≤ (τ 0 20).toInt ∧ (τ 0 20).toInt ≤ 8 ∧ 0 ≤ (τ 0 21).toInt ∧ (τ 0 21).toInt ≤ 8) (hp : TP σ τ) (h5 : σ 7 5 = τ 0 16) (hg : TG σ τ) (hs : SP key σ τ) (hq : OP σ τ) (hl : σ 8 1 = τ 0 24) (hk : ∀ r s r' t, PR key s t → tk τ t → (τ 0 16).toInt ≤ (t 0 15).toInt → z2 (k r s) (k' r' t) P) : z2 (zbd (f_X1_advance σ) k) (zbd (f_X7_nextToken τ) k') P := by
  refine z2_adv0 hm h1 hp h5 hg (fun r s r' t hw kt it hT hP hB => ?_)
  have cw : ∀ p j, p ≠ 7 → s p j = σ p j := fun p j hn => hw p j (by unfold W_X1_advance; omega)
  have c22 := kt.2 22 (by decide)
  have c23 := kt.2 23 (by decide)
  have c20 := kt.2 20 (by decide)
  have c21 := kt.2 21 (by decide)
  have hps : PS t := by
    refine ⟨it, ?_, hT.2.2.2.2.1, hT.2.2.2.2.2.1, hT.2.2.2.2.2.2.1, by rw [c22]; omega, by rw [c20]; exact ho.1, by rw [c20]; exact ho.2.1, by rw [c21]; exact ho.2.2.1, by rw [c21]; exact ho.2.2.2⟩
    unfold sB
    rw [c22, c23]
    exact hb
  refine hk r s r' t ⟨hps, hT, hP, hs.k (fun j => cw 8 j (by decide)) (fun j => cw 9 j (by decide)) c22 c23 (kt.1 1 (by decide)), ⟨(hw 7 6 (by unfold W_X1_advance; omega)).trans (hq.1.trans c20.symm), (hw 7 7 (by unfold W_X1_advance; omega)).trans (hq.2.trans c21.symm)⟩, (cw 8 1 (by decide)).trans (hl.trans (kt.2 24 (by decide)).symm)⟩ kt hB
theorem z2_nx {key : Int32} {σ τ : zg_S} {P : Int32 → zg_S → Int32 → zg_S → Prop} {k k' : Int32 → zg_S → Option (Int32 × zg_S)} (h : PR key σ τ) (hk : ∀ r s r' t, PR key s t → tk τ t → (τ 0 16).toInt ≤ (t 0 15).toInt → z2 (k r s) (k' r' t) P) : z2 (zbd (f_X1_advance σ) k) (zbd (f_X7_nextToken τ) k') P := by
  obtain ⟨⟨q1, q2, q3, q4, q5, q6, q7, q8, q9, q10⟩, h2, h3, h4, h5, h6⟩ := h
  exact z2_adv q1 q2 q4 (by omega) ⟨q7, q8, q9, q10⟩ h3 h2.2.2.1 h2.tg h4 h5 h6 hk
/-! steps -/
def cA (σ s : zg_S) (c : Int32) : Prop := (∀ p k, p ≠ 8 → p ≠ 9 → s p k = σ p k) ∧ s 8 0 = σ 8 0 ∧ s 8 2 = σ 8 2 + 1 ∧ s 9 (σ 8 2).toNatClampNeg = c ∧ ∀ i, i ≠ (σ 8 2).toNatClampNeg → s 9 i = σ 9 i
theorem c_addStep (c : Int32) (σ : zg_S) (h0 : 0 ≤ (σ 8 2).toInt) (h1 : (σ 8 2).toInt < 96) : zk (f_X5_addStep 8 c σ) (fun _ s => cA σ s c ∧ s 8 1 = σ 8 1) := by
  have e96 := zt_96
  unfold f_X5_addStep
  refine zk_ite (fun h => ?_) (fun _ => ?_)
  · have := zle h
    omega
  refine zk_in (zin_mk h0 (by omega)) ?_
  refine zk_let (fun s q => ?_)
  have r : ∀ p, p ≠ 9 → s p = σ p := fun p hp => by rw [q]; exact zg_row_ne hp
  have s82 : s 8 2 = σ 8 2 := congrFun (r 8 (by decide)) 2
  rw [s82]
  refine zk_let (fun u q2 => ?_)
  have ru : ∀ p, p ≠ 8 → u p = s p := fun p hp => by rw [q2]; exact zg_row_ne hp
  refine zk_some ⟨⟨fun p k h8 h9 => (congrFun (ru p h8) k).trans (congrFun (r p h9) k), ?_, by rw [q2]; exact zgot, ?_, fun i hi => ?_⟩, ?_⟩
  · rw [q2]
    exact (zkeepf rfl).trans (congrFun (r 8 (by decide)) 0)
  · rw [ru 9 (by decide), q]
    exact zgot
  · rw [ru 9 (by decide), q]
    exact zkeepn hi
  · rw [q2]
    exact (zkeepf rfl).trans (congrFun (r 8 (by decide)) 1)
theorem c_addLeaf (c : Int32) (σ : zg_S) (h0 : 0 ≤ (σ 8 2).toInt) (h1 : (σ 8 2).toInt < 96) : zk (f_X5_addLeaf 8 c σ) (fun _ s => cA σ s c ∧ s 8 1 = σ 8 1 + 1) := by
  unfold f_X5_addLeaf
  refine zk_let (fun s q => ?_)
  have r : ∀ p, p ≠ 8 → s p = σ p := fun p hp => by rw [q]; exact zg_row_ne hp
  have s0 : s 8 0 = σ 8 0 := by rw [q]; exact zkeepf rfl
  have s1 : s 8 1 = σ 8 1 + 1 := by rw [q]; exact zgot
  have s2 : s 8 2 = σ 8 2 := by rw [q]; exact zkeepf rfl
  refine zk_call (c_addStep c s (by rw [s2]; exact h0) (by rw [s2]; exact h1)) (fun _ u hp => ?_)
  obtain ⟨⟨a1, a2, a3, a4, a5⟩, a6⟩ := hp
  rw [s2] at a3 a4 a5
  exact zk_some ⟨⟨fun p k h8 h9 => (a1 p k h8 h9).trans (congrFun (r p h8) k), a2.trans s0, a3, a4, fun i hi => (a5 i hi).trans (congrFun (r 9 (by decide)) i)⟩, a6.trans s1⟩
theorem SP.add {key c w v : Int32} {σ s τ t : zg_S} (h : SP key σ τ) (hb : sB τ) (hl : (τ 0 22).toInt < 96) (hc : cA σ s c) (p2 : ∀ k, k ≠ 22 → t 0 k = τ 0 k) (p3 : t 0 22 = τ 0 22 + 1) (p4 : t 1 (mb τ + 2 * ml τ) = w) (p5 : t 1 (mb τ + 2 * ml τ + 1) = v) (p6 : ∀ k, k ≠ mb τ + 2 * ml τ → k ≠ mb τ + 2 * ml τ + 1 → t 1 k = τ 1 k) (hr : SR key c w v) : SP key s t := by
  obtain ⟨a1, a2, a3, a4, a5⟩ := hc
  obtain ⟨h1, h2, h3⟩ := h
  have e1 := zt_1
  have nl := ztn hb.1
  have ea := zTe (zTadd (zTs (τ 0 22)) (zTl zt_1) (by have := hb.1; omega) (by omega))
  have hm : mb t = mb τ := congrArg Int32.toNatClampNeg (p2 23 (by decide))
  rw [h2] at a3 a4 a5
  refine ⟨a2.trans h1, a3.trans p3.symm, fun i hi => ?_⟩
  rw [p3, ea] at hi
  rw [hm]
  by_cases c' : i = ml τ
  · subst c'
    rw [p4, p5, show ml τ = (τ 0 22).toNatClampNeg from rfl, a4]
    exact hr
  · have hlt : (i : Int) < (τ 0 22).toInt := by unfold ml at c'; omega
    rw [a5 i c', p6 _ (by omega) (by omega), p6 _ (by omega) (by omega)]
    exact h3 i hlt
/-- how far the reading has gone -/
def ND (τ t : zg_S) : Prop := (τ 0 22).toInt ≤ (t 0 22).toInt ∧ (t 0 22).toInt - (τ 0 22).toInt ≤ (t 0 15).toInt - (τ 0 15).toInt ∧ (τ 0 15).toInt ≤ (t 0 15).toInt ∧ t 0 20 = τ 0 20 ∧ t 0 21 = τ 0 21
def RQ (key : Int32) (τ : zg_S) (r : Int32) (s : zg_S) (r' : Int32) (t : zg_S) : Prop := r = r' ∧ ((r = 0 ∧ s 7 4 = t 0 15) ∨ (r = 1 ∧ PR key s t ∧ ND τ t))
/-- a step on both sides, at a piece -/
theorem z2_step {key c w v : Int32} {σ τ τ0 : zg_S} {P : Int32 → zg_S → Int32 → zg_S → Prop} {k k' : Int32 → zg_S → Option (Int32 × zg_S)} (h : PR key σ τ) (hr : SR key c w v) (l1 : (τ0 0 22).toInt ≤ (τ 0 22).toInt) (l2 : (τ 0 22).toInt + 1 - (τ0 0 22).toInt ≤ (τ 0 15).toInt - (τ0 0 15).toInt) (l3 : (τ0 0 15).toInt ≤ (τ 0 15).toInt) (l4 : (τ 0 22).toInt + 1 ≤ (τ 0 15).toInt) (k20 : τ 0 20 = τ0 0 20) (k21 : τ 0 21 = τ0 0 21) (hk : ∀ r s r' t, PR key s t → ND τ0 t → t 0 15 = τ 0 15 → z2 (k r s) (k' r' t) P) : z2 (zbd (f_X5_addStep 8 c σ) k) (zbd (f_X7_step w v τ) k') P := by
  obtain ⟨⟨q1, q2, q3, q4, q5, q6, q7, q8, q9, q10⟩, hT, hP, hS, hO, hL⟩ := h
  have e1 := zt_1
  have f14 : 0 ≤ (τ 0 14).toInt ∧ (τ 0 14).toInt ≤ 96 := q1 0 14
  have e82 := hS.2.1
  have b0 := q2.1
  refine z2_cL (c_addStep c σ (by rw [e82]; exact q2.1) (by rw [e82]; omega)) (fun r s hs => ?_)
  refine z2_cR (m_step w v τ q1 q2) (fun r' t ht => ?_)
  obtain ⟨hc, c81⟩ := hs
  obtain ⟨it, p1, p2, p3, p4, p5, p6⟩ := ht
  have ea := zTe (zTadd (zTs (τ 0 22)) (zTl zt_1) (by omega) (by omega))
  have t22 : (t 0 22).toInt = (τ 0 22).toInt + 1 := by rw [p3]; exact ea
  have hS' : SP key s t := hS.add q2 (by omega) hc p2 p3 p4 p5 p6 hr
  have cw := hc.1
  have t13 : t 13 = τ 13 := p1 13 (by decide) (by decide)
  have hps : PS t := ⟨it, ⟨by omega, by omega, by rw [p2 23 (by decide)]; exact q2.2.2.1, by rw [p2 23 (by decide)]; exact q2.2.2.2⟩, by rw [p2 15 (by decide), p2 16 (by decide)]; exact q3, by rw [p2 16 (by decide), p2 14 (by decide)]; exact q4, by rw [p2 17 (by decide), p2 15 (by decide), p2 16 (by decide)]; exact q5, by rw [p2 15 (by decide)]; omega, by rw [p2 20 (by decide)]; exact q7, by rw [p2 20 (by decide)]; exact q8, by rw [p2 21 (by decide)]; exact q9, by rw [p2 21 (by decide)]; exact q10⟩
  refine hk r s r' t ⟨hps, ?_, ?_, hS', ?_, ?_⟩ ⟨by omega, by rw [p2 15 (by decide)]; omega, by rw [p2 15 (by decide)]; exact l3, (p2 20 (by decide)).trans k20, (p2 21 (by decide)).trans k21⟩ (p2 15 (by decide))
  · unfold TK tok
    rw [cw 7 4 (by decide) (by decide), cw 7 3 (by decide) (by decide), cw 7 5 (by decide) (by decide), p2 15 (by decide), p2 16 (by decide), p2 17 (by decide), p2 18 (by decide), p2 19 (by decide), p2 14 (by decide), t13]
    exact hT
  · unfold TP
    rw [cw 7 2 (by decide) (by decide), p2 14 (by decide), t13]
    exact ⟨hP.1, fun i hi => (cw 6 i (by decide) (by decide)).trans (hP.2 i hi)⟩
  · unfold OP
    rw [cw 7 6 (by decide) (by decide), cw 7 7 (by decide) (by decide), p2 20 (by decide), p2 21 (by decide)]
    exact hO
  · rw [c81, p2 24 (by decide)]
    exact hL
end
section
/-! a leaf on both sides -/
theorem z2_leaf {key c w v : Int32} {σ τ : zg_S} {P : Int32 → zg_S → Int32 → zg_S → Prop} (h : PR key σ τ) (hK : ¬ τ 0 17 = 0) (hr : SR key c w v) (hP : ∀ s t, PR key s t → ND τ t → P 1 s 1 t) : z2 (zbd (f_X5_addLeaf 8 c σ) (fun _ s => zbd (f_X1_advance s) (fun _ s => some (1, s)))) (zbd (f_X7_step w v τ) (fun _ t => zlet (zg_up t 0 24 ((t 0 24) + 1)) (fun t => zbd (f_X7_nextToken t) (fun _ t => some (1, t))))) P := by
  obtain ⟨⟨q1, q2, q3, q4, q5, q6, q7, q8, q9, q10⟩, hT, hTP, hS, hO, hL⟩ := h
  have e1 := zt_1
  have f14 : 0 ≤ (τ 0 14).toInt ∧ (τ 0 14).toInt ≤ 96 := q1 0 14
  have e82 := hS.2.1
  have b0 := q2.1
  have hlt := q5.resolve_left hK
  refine z2_cL (c_addLeaf c σ (by rw [e82]; exact q2.1) (by rw [e82]; omega)) (fun r s hs => ?_)
  refine z2_cR (m_step w v τ q1 q2) (fun r' t ht => ?_)
  obtain ⟨hc, c81⟩ := hs
  obtain ⟨it, p1, p2, p3, p4, p5, p6⟩ := ht
  have ea := zTe (zTadd (zTs (τ 0 22)) (zTl zt_1) (by omega) (by omega))
  have hS' : SP key s t := hS.add q2 (by omega) hc p2 p3 p4 p5 p6 hr
  refine z2_lR (fun u q => ?_)
  have iu : IMc u := by rw [q]; exact IMc.up it (zTs _) trivial
  have ru : ∀ p, p ≠ 0 → u p = t p := fun p hp => by rw [q]; exact zg_row_ne hp
  have k' : ∀ j, j ≠ 22 → j ≠ 24 → u 0 j = τ 0 j := fun j h1 h2 => by rw [q]; exact (zkeepn h2).trans (p2 j h1)
  have u22e : u 0 22 = t 0 22 := by rw [q]; exact zkeepf rfl
  have u22 : (u 0 22).toInt = (τ 0 22).toInt + 1 := by rw [u22e, p3]; exact ea
  have u24 : u 0 24 = τ 0 24 + 1 := by rw [q]; refine zgot.trans ?_; rw [p2 24 (by decide)]
  have cw := hc.1
  have u13 : u 13 = τ 13 := (ru 13 (by decide)).trans (p1 13 (by decide) (by decide))
  have k23 : u 0 23 = τ 0 23 := k' 23 (by decide) (by decide)
  have hTu : TK s u := by
    unfold TK tok
    rw [cw 7 4 (by decide) (by decide), cw 7 3 (by decide) (by decide), cw 7 5 (by decide) (by decide), k' 15 (by decide) (by decide), k' 16 (by decide) (by decide), k' 17 (by decide) (by decide), k' 18 (by decide) (by decide), k' 19 (by decide) (by decide), k' 14 (by decide) (by decide), u13]
    exact hT
  have hTPu : TP s u := by
    unfold TP
    rw [cw 7 2 (by decide) (by decide), k' 14 (by decide) (by decide), u13]
    exact ⟨hTP.1, fun i hi => (cw 6 i (by decide) (by decide)).trans (hTP.2 i hi)⟩
  have hOu : OP s u := by
    unfold OP
    rw [cw 7 6 (by decide) (by decide), cw 7 7 (by decide) (by decide), k' 20 (by decide) (by decide), k' 21 (by decide) (by decide)]
    exact hO
  refine z2_adv (key := key) iu ⟨by omega, by omega, by rw [k23]; exact q2.2.2.1, by rw [k23]; exact q2.2.2.2⟩ hTu.2.2.2.2.2.1 (by rw [k' 16 (by decide) (by decide)]; omega) (by rw [k' 20 (by decide) (by decide), k' 21 (by decide) (by decide)]; exact ⟨q7, q8, q9, q10⟩) hTPu hTu.2.2.1 hTu.tg (hS'.k (fun _ => rfl) (fun _ => rfl) u22e (k23.trans (p2 23 (by decide)).symm) (ru 1 (by decide))) hOu (by rw [c81, u24, hL]) (fun r2 s2 r2' t2 hR kt hB => z2_some (hP s2 t2 hR ?_))
  rw [k' 16 (by decide) (by decide)] at hB
  have g22 := congrArg Int32.toInt (kt.2 22 (by decide))
  exact ⟨by omega, by omega, by omega, (kt.2 20 (by decide)).trans (k' 20 (by decide) (by decide)), (kt.2 21 (by decide)).trans (k' 21 (by decide) (by decide))⟩
/-! numbers -/
theorem nv_b {n : Int} {T : Nat → Int32} {b : Nat} : ∀ k, k ≤ 4 → (∀ i, b ≤ i → i < b + k → qD n T i) → 0 ≤ (nv T b k).toInt ∧ (nv T b k).toInt + 1 ≤ 10 ^ k := by
  intro k
  induction k with
  | zero =>
    intro _ _
    show 0 ≤ (0 : Int32).toInt ∧ (0 : Int32).toInt + 1 ≤ 10 ^ 0
    decide
  | succ k ih =>
    intro hk h
    obtain ⟨a1, a2⟩ := ih (by omega) (fun i x y => h i x (by omega))
    obtain ⟨_, d1, d2⟩ := h (b + k) (by omega) (by omega)
    have hp : (10 : Int) ^ k ≤ 1000 := by
      have : k = 0 ∨ k = 1 ∨ k = 2 ∨ k = 3 := by omega
      rcases this with rfl | rfl | rfl | rfl <;> decide
    have hp1 : (10 : Int) ^ (k + 1) = 10 ^ k * 10 := Int.pow_succ _ _
    have em := zTmul (zTl (show (10 : Int32).toInt = 10 by decide)) (zTs (nv T b k)) (by omega) (by omega)
    have e := zTe (zTsub (zTadd em (zTs (T (b + k))) (by omega) (by omega)) (zTl zt_48) (by omega) (by omega))
    show 0 ≤ (10 * nv T b k + T (b + k) - 48).toInt ∧ (10 * nv T b k + T (b + k) - 48).toInt + 1 ≤ 10 ^ (k + 1)
    rw [e, hp1]
    omega
theorem z2_number {key : Int32} {σ τ : zg_S} {o' : Option (Int32 × zg_S)} {P : Int32 → zg_S → Int32 → zg_S → Prop} (h : PR key σ τ) (hK : τ 0 17 = 2) (hk : z2 (zbd (f_X5_addLeaf 8 (τ 0 18) σ) (fun _ s => zbd (f_X1_advance s) (fun _ s => some (1, s)))) o' P) : z2 (f_X1_readNumber σ) o' P := by
  obtain ⟨⟨q1, q2, q3, q4, q5, q6, q7, q8, q9, q10⟩, hT, hTP, hS, hO, hL⟩ := h
  have e1 := zt_1
  have f14 : 0 ≤ (τ 0 14).toInt ∧ (τ 0 14).toInt ≤ 96 := q1 0 14
  obtain ⟨t1, t2, t3, t4, t5, t6, t7, _, tN, _⟩ := hT
  obtain ⟨d1, d2, d3⟩ := tN hK
  have nB := ztn t4
  have key' : ∀ (m : Nat) (x : Int32) (j k : Nat), j + k = ((τ 0 16).toInt - (τ 0 15).toInt).toNat → k < m → x.toInt = (τ 0 15).toInt + j → L_X1_readNumber_7 m (nv (τ 13) (τ 0 15).toNatClampNeg j) x σ = B_X1_readNumber_44 (τ 0 18) σ := by
    intro m
    induction m with
    | zero => intro x j k _ hm; omega
    | succ m ih =>
      intro x j k hj hm hx
      show B_X1_readNumber_7 (L_X1_readNumber_7 m) (nv (τ 13) (τ 0 15).toNatClampNeg j) x σ = _
      unfold B_X1_readNumber_7
      rw [t3, hTP.1]
      cases k with
      | zero =>
        rw [if_pos (Int32.le_iff_toInt_le.mpr (by omega)), d3, ← hj]
        rfl
      | succ k =>
        rw [if_neg (fun z => by have := zle z; omega), if_neg (fun z => by have := zle z; omega), if_pos (zin_mk (by omega) (by omega))]
        have ex := zTe (zTadd (zTs x) (zTl zt_1) (by omega) (by omega))
        have nx := ztn (i := x) (by omega)
        have ev : ((nv (τ 13) (τ 0 15).toNatClampNeg j * 10) + σ 6 x.toNatClampNeg) - 48 = nv (τ 13) (τ 0 15).toNatClampNeg (j + 1) := by
          show _ = 10 * nv (τ 13) (τ 0 15).toNatClampNeg j + τ 13 ((τ 0 15).toNatClampNeg + j) - 48
          rw [hTP.2 _ (by omega), Int32.mul_comm, show (τ 0 15).toNatClampNeg + j = x.toNatClampNeg by omega]
        show L_X1_readNumber_7 m (((nv (τ 13) (τ 0 15).toNatClampNeg j * 10) + σ 6 x.toNatClampNeg) - 48) (x + 1) σ = _
        rw [ev]
        exact ih (x + 1) (j + 1) k (by omega) (by omega) (by rw [ex]; omega)
  unfold f_X1_readNumber
  rw [t1]
  have e := key' zfu (τ 0 15) 0 ((τ 0 16).toInt - (τ 0 15).toInt).toNat (by omega) (by unfold zfu; omega) (by omega)
  rw [show (0 : Int32) = nv (τ 13) (τ 0 15).toNatClampNeg 0 from rfl, e]
  exact hk
theorem number_SR {key : Int32} {σ τ : zg_S} (h : PR key σ τ) (hK : τ 0 17 = 2) : SR key (τ 0 18) 0 (τ 0 18) := by
  obtain ⟨_, hT, _⟩ := h
  obtain ⟨t1, t2, t3, t4, t5, t6, t7, _, tN, _⟩ := hT
  obtain ⟨d1, d2, d3⟩ := tN hK
  have nB := ztn t4
  refine Or.inl ⟨rfl, rfl, ?_⟩
  rw [d3]
  exact (nv_b (n := (τ 0 14).toInt) (T := τ 13) _ (by omega) (fun i x y => d1 i (by omega) (by omega))).1
/-! names -/
def ixN (key c : Int32) : Int32 := if key = 0 then (if c = 104 then 0 else if c = 103 then 1 else if c = 112 then 2 else -1) else if key = 1 then (if c = 99 then 0 else if c = 116 then 1 else -1) else (if c = 103 then 0 else if c = 115 then 1 else -1)
def KY (key : Int32) : Prop := key = 0 ∨ key = 1 ∨ key = 2
theorem ch_e {c : Int32} (h1 : 97 ≤ c.toInt) (h2 : c.toInt ≤ 122) : (Int32.toUInt32 c % 65536).toInt32 = c ∧ (Int32.toInt8 c).toInt32 = c := by
  have k : ∀ n : Int32, c.toInt = n.toInt → c = n := fun n h => Int32.toInt_inj.mp h
  have hc : c.toInt = 97 ∨ c.toInt = 98 ∨ c.toInt = 99 ∨ c.toInt = 100 ∨ c.toInt = 101 ∨ c.toInt = 102 ∨ c.toInt = 103 ∨ c.toInt = 104 ∨ c.toInt = 105 ∨ c.toInt = 106 ∨ c.toInt = 107 ∨ c.toInt = 108 ∨ c.toInt = 109 ∨ c.toInt = 110 ∨ c.toInt = 111 ∨ c.toInt = 112 ∨ c.toInt = 113 ∨ c.toInt = 114 ∨ c.toInt = 115 ∨ c.toInt = 116 ∨ c.toInt = 117 ∨ c.toInt = 118 ∨ c.toInt = 119 ∨ c.toInt = 120 ∨ c.toInt = 121 ∨ c.toInt = 122 := by omega
  rcases hc with hc | hc | hc | hc | hc | hc | hc | hc | hc | hc | hc | hc | hc | hc | hc | hc | hc | hc | hc | hc | hc | hc | hc | hc | hc | hc
  · rw [k 97 (hc.trans (by decide))]; decide
  · rw [k 98 (hc.trans (by decide))]; decide
  · rw [k 99 (hc.trans (by decide))]; decide
  · rw [k 100 (hc.trans (by decide))]; decide
  · rw [k 101 (hc.trans (by decide))]; decide
  · rw [k 102 (hc.trans (by decide))]; decide
  · rw [k 103 (hc.trans (by decide))]; decide
  · rw [k 104 (hc.trans (by decide))]; decide
  · rw [k 105 (hc.trans (by decide))]; decide
  · rw [k 106 (hc.trans (by decide))]; decide
  · rw [k 107 (hc.trans (by decide))]; decide
  · rw [k 108 (hc.trans (by decide))]; decide
  · rw [k 109 (hc.trans (by decide))]; decide
  · rw [k 110 (hc.trans (by decide))]; decide
  · rw [k 111 (hc.trans (by decide))]; decide
  · rw [k 112 (hc.trans (by decide))]; decide
  · rw [k 113 (hc.trans (by decide))]; decide
  · rw [k 114 (hc.trans (by decide))]; decide
  · rw [k 115 (hc.trans (by decide))]; decide
  · rw [k 116 (hc.trans (by decide))]; decide
  · rw [k 117 (hc.trans (by decide))]; decide
  · rw [k 118 (hc.trans (by decide))]; decide
  · rw [k 119 (hc.trans (by decide))]; decide
  · rw [k 120 (hc.trans (by decide))]; decide
  · rw [k 121 (hc.trans (by decide))]; decide
  · rw [k 122 (hc.trans (by decide))]; decide
theorem ixst (q : Nat) (a1 a2 a3 x4 x5 b : Int32) (m : Nat) (σ : zg_S) (h1 : ¬ a3 ≤ x5) (h2 : zin x5 (zz_len.getD q 0) = true) (hb : (zz_byt.getD q []).getD x5.toNatClampNeg 0 = b) : L_J1_indexOfChar_4cfef_7 q a1 a2 a3 (m + 1) x4 x5 σ = if b = x4 then some (x5, σ) else L_J1_indexOfChar_4cfef_7 q a1 a2 a3 m x4 (x5 + 1) σ := by
  show B_J1_indexOfChar_4cfef_7 q a1 a2 a3 (L_J1_indexOfChar_4cfef_7 q a1 a2 a3 m) x4 x5 σ = _
  unfold B_J1_indexOfChar_4cfef_7
  rw [if_neg h1, if_pos h2, hb]
theorem ixen (q : Nat) (a1 a2 a3 x4 x5 : Int32) (m : Nat) (σ : zg_S) (h1 : a3 ≤ x5) : L_J1_indexOfChar_4cfef_7 q a1 a2 a3 (m + 1) x4 x5 σ = some (-1, σ) := by
  show B_J1_indexOfChar_4cfef_7 q a1 a2 a3 (L_J1_indexOfChar_4cfef_7 q a1 a2 a3 m) x4 x5 σ = _
  unfold B_J1_indexOfChar_4cfef_7
  rw [if_pos h1]
theorem ixL {key c : Int32} (a1 : Int32) (σ : zg_S) (hk : KY key) : L_J1_indexOfChar_4cfef_7 (zg_nm key) a1 0 (nI (zz_len.getD (zg_nm key) 0)) zfu c 0 σ = some (ixN key c, σ) := by
  obtain ⟨m, hm⟩ : ∃ m, zfu = m + 1 + 1 + 1 + 1 := ⟨99996, by unfold zfu; rfl⟩
  have h10 : ¬ (1 : Int32) = 0 := by decide
  have h20 : ¬ (2 : Int32) = 0 := by decide
  have h21 : ¬ (2 : Int32) = 1 := by decide
  rw [hm]
  rcases hk with rfl | rfl | rfl
  · show L_J1_indexOfChar_4cfef_7 3 a1 0 3 (m + 1 + 1 + 1 + 1) c 0 σ = _
    unfold ixN
    rw [if_pos rfl, ixst 3 a1 0 3 c 0 104 _ σ (by decide) (by decide) (by decide)]
    by_cases c1 : c = 104
    · rw [if_pos c1, if_pos c1.symm]
    rw [if_neg c1, if_neg (fun z => c1 z.symm), show (0 : Int32) + 1 = 1 by decide, ixst 3 a1 0 3 c 1 103 _ σ (by decide) (by decide) (by decide)]
    by_cases c2 : c = 103
    · rw [if_pos c2, if_pos c2.symm]
    rw [if_neg c2, if_neg (fun z => c2 z.symm), show (1 : Int32) + 1 = 2 by decide, ixst 3 a1 0 3 c 2 112 _ σ (by decide) (by decide) (by decide)]
    by_cases c3 : c = 112
    · rw [if_pos c3, if_pos c3.symm]
    rw [if_neg c3, if_neg (fun z => c3 z.symm), ixen 3 a1 0 3 c _ _ σ (by decide)]
  · show L_J1_indexOfChar_4cfef_7 4 a1 0 2 (m + 1 + 1 + 1 + 1) c 0 σ = _
    unfold ixN
    rw [if_neg h10, if_pos rfl, ixst 4 a1 0 2 c 0 99 _ σ (by decide) (by decide) (by decide)]
    by_cases c1 : c = 99
    · rw [if_pos c1, if_pos c1.symm]
    rw [if_neg c1, if_neg (fun z => c1 z.symm), show (0 : Int32) + 1 = 1 by decide, ixst 4 a1 0 2 c 1 116 _ σ (by decide) (by decide) (by decide)]
    by_cases c2 : c = 116
    · rw [if_pos c2, if_pos c2.symm]
    rw [if_neg c2, if_neg (fun z => c2 z.symm), ixen 4 a1 0 2 c _ _ σ (by decide)]
  · show L_J1_indexOfChar_4cfef_7 5 a1 0 2 (m + 1 + 1 + 1 + 1) c 0 σ = _
    unfold ixN
    rw [if_neg h20, if_neg h21, ixst 5 a1 0 2 c 0 103 _ σ (by decide) (by decide) (by decide)]
    by_cases c1 : c = 103
    · rw [if_pos c1, if_pos c1.symm]
    rw [if_neg c1, if_neg (fun z => c1 z.symm), show (0 : Int32) + 1 = 1 by decide, ixst 5 a1 0 2 c 1 115 _ σ (by decide) (by decide) (by decide)]
    by_cases c2 : c = 115
    · rw [if_pos c2, if_pos c2.symm]
    rw [if_neg c2, if_neg (fun z => c2 z.symm), ixen 5 a1 0 2 c _ _ σ (by decide)]
theorem ix_e {key c : Int32} (σ : zg_S) (hk : KY key) (h1 : 97 ≤ c.toInt) (h2 : c.toInt ≤ 122) : f_J0_indexOf_0f7a4 (zg_nm key) ((Int32.toUInt32 c % 65536).toInt32) σ = some (ixN key c, σ) := by
  have e0 := zt_0
  obtain ⟨e1, e2⟩ := ch_e h1 h2
  have hq : zg_nm key < 6 := zg_nm_lt key
  have hl : (0 : Int32) < nI (zz_len.getD (zg_nm key) 0) := by rcases hk with rfl | rfl | rfl <;> decide
  have h255 : (255 : Int32).toInt = 255 := by decide
  rw [e1]
  have hz : zk (f_J0_indexOf_0f7a4 (zg_nm key) c σ) (fun r s => r = ixN key c ∧ σ = s) := by
    unfold f_J0_indexOf_0f7a4
    refine zk_call (P := fun r s => r = ixN key c ∧ σ = s) ?_ (fun r s hp => zk_some hp)
    unfold f_J0_indexOf_7cf53 f_J0_isLatin1_aae02
    refine zk_call (P := fun r s => r = 1 ∧ σ = s) ⟨1, σ, rfl, rfl, rfl⟩ (fun r s hp => ?_)
    obtain ⟨rfl, rfl⟩ := hp
    refine zk_ite (fun h => absurd h (by decide)) (fun _ => ?_)
    refine zk_call (P := fun r s => r = nI (zz_len.getD (zg_nm key) 0) ∧ σ = s) ⟨_, _, ej_len _ hq σ, rfl, rfl⟩ (fun r s hp => ?_)
    obtain ⟨rfl, rfl⟩ := hp
    refine zk_call (P := fun r s => r = ixN key c ∧ σ = s) ?_ (fun r s hp => zk_some hp)
    unfold f_J1_indexOf_4cfef
    refine zk_call (P := fun r s => r = 1 ∧ σ = s) ?_ (fun r1 s hp => ?_)
    · unfold f_J1_canEncode_9a6ad
      refine zk_ite (fun h => ?_) (fun _ => zk_ite (fun h => ?_) (fun _ => zk_some ⟨rfl, rfl⟩))
      · have := zlt h; omega
      · have := zlt h; omega
    · obtain ⟨rfl, rfl⟩ := hp
      refine zk_ite (fun h => absurd h (by decide)) (fun _ => ?_)
      refine zk_let (fun y ey => ?_)
      have ey' : y = nI (zz_len.getD (zg_nm key) 0) := by
        rw [ey]
        by_cases cc : nI (zz_len.getD (zg_nm key) 0) < nI (zz_len.getD (zg_nm key) 0)
        · rw [if_pos cc]
        · rw [if_neg cc]
      subst ey'
      rw [show (if (0 : Int32) < 0 then (0 : Int32) else 0) = 0 by decide]
      refine zk_ite (fun _ => ?_) (fun h => absurd hl h)
      refine zk_call (P := fun r s => r = ixN key c ∧ σ = s) ⟨_, _, ?_, rfl, rfl⟩ (fun r s hp => zk_some hp)
      unfold f_J1_indexOfChar_4cfef
      rw [e2]
      exact ixL c σ hk
  obtain ⟨r, s, e, rfl, rfl⟩ := hz
  exact e
end
section
theorem nm_c (key c : Int32) (τ : zg_S) (hk : KY key) : (f_X7_isName key c τ = some (1, τ) ∧ 0 ≤ ixN key c ∧ sNo key c (-1 - ixN key c)) ∨ (f_X7_isName key c τ = some (0, τ) ∧ ¬ 0 ≤ ixN key c) := by
  have h10 : ¬ (1 : Int32) = 0 := by decide
  have h20 : ¬ (2 : Int32) = 0 := by decide
  have h21 : ¬ (2 : Int32) = 1 := by decide
  rcases hk with rfl | rfl | rfl
  · by_cases c1 : c = 104
    · subst c1; exact Or.inl ⟨rfl, by decide, by unfold sNo; decide⟩
    by_cases c2 : c = 103
    · subst c2; exact Or.inl ⟨rfl, by decide, by unfold sNo; decide⟩
    by_cases c3 : c = 112
    · subst c3; exact Or.inl ⟨rfl, by decide, by unfold sNo; decide⟩
    refine Or.inr ⟨?_, ?_⟩
    · unfold f_X7_isName; rw [if_pos rfl, if_neg c1, if_neg c2, if_neg c3]
    · unfold ixN; rw [if_pos rfl, if_neg c1, if_neg c2, if_neg c3]; decide
  · by_cases c1 : c = 99
    · subst c1; exact Or.inl ⟨rfl, by decide, by unfold sNo; decide⟩
    by_cases c2 : c = 116
    · subst c2; exact Or.inl ⟨rfl, by decide, by unfold sNo; decide⟩
    refine Or.inr ⟨?_, ?_⟩
    · unfold f_X7_isName; rw [if_neg h10, if_pos rfl, if_neg c1, if_neg c2]
    · unfold ixN; rw [if_neg h10, if_pos rfl, if_neg c1, if_neg c2]; decide
  · by_cases c1 : c = 103
    · subst c1; exact Or.inl ⟨rfl, by decide, by unfold sNo; decide⟩
    by_cases c2 : c = 115
    · subst c2; exact Or.inl ⟨rfl, by decide, by unfold sNo; decide⟩
    refine Or.inr ⟨?_, ?_⟩
    · unfold f_X7_isName; rw [if_neg h20, if_neg h21, if_neg c1, if_neg c2]
    · unfold ixN; rw [if_neg h20, if_neg h21, if_neg c1, if_neg c2]; decide
theorem e_isSign0 {c : Int32} {τ : zg_S} (h : ¬ (τ 0 17 = 3 ∧ τ 0 19 = c)) : f_X7_isSign c τ = some (0, τ) := by
  unfold f_X7_isSign
  by_cases h3 : τ 0 17 = 3
  · rw [if_pos h3, if_neg (fun z => h ⟨h3, z⟩)]
  · rw [if_neg h3]
theorem e_isSign1 {c : Int32} {τ : zg_S} (h : τ 0 17 = 3) (h' : τ 0 19 = c) : f_X7_isSign c τ = some (1, τ) := by
  unfold f_X7_isSign
  rw [if_pos h, if_pos h']
theorem z2_145 {o : Option (Int32 × zg_S)} {P : Int32 → zg_S → Int32 → zg_S → Prop} {rec : Nat → Int32 → zg_S → Option (Int32 × zg_S)} {key : Int32} {τ : zg_S} (hK : ¬ (τ 0 17 = 3 ∧ τ 0 19 = 40)) (h : z2 o (some (0, τ)) P) : z2 o (B_X7_part0_145 rec key τ) P := by
  unfold B_X7_part0_145
  exact z2_eR (e_isSign0 hK) (z2_pR rfl h)
theorem z2_84 {o : Option (Int32 × zg_S)} {P : Int32 → zg_S → Int32 → zg_S → Prop} {rec : Nat → Int32 → zg_S → Option (Int32 × zg_S)} {key : Int32} {τ : zg_S} (hK : ¬ (τ 0 17 = 3 ∧ τ 0 19 = 33)) (h : z2 o (B_X7_part0_145 rec key τ) P) : z2 o (B_X7_part0_84 rec key τ) P := by
  unfold B_X7_part0_84
  exact z2_eR (e_isSign0 hK) (z2_pR rfl h)
theorem PR.no {key : Int32} {σ τ : zg_S} (h : PR key σ τ) : RQ key τ 0 σ 0 τ := ⟨rfl, Or.inl ⟨rfl, h.2.1.1⟩⟩
theorem z2_name {key : Int32} {σ τ : zg_S} {rec : Nat → Int32 → zg_S → Option (Int32 × zg_S)} (hk : KY key) (h : PR key σ τ) (hK : τ 0 17 = 1) : z2 (f_X1_readName σ) (f_X7_part0 rec key τ) (RQ key τ) := by
  obtain ⟨hps, hT, hTP, hS, hO, hL⟩ := id h
  have e1 := zt_1
  have f14 : 0 ≤ (τ 0 14).toInt ∧ (τ 0 14).toInt ≤ 96 := hps.1 0 14
  obtain ⟨t1, t2, t3, t4, t5, t6, t7, tL, _⟩ := hT
  obtain ⟨d1, d2⟩ := tL hK
  have h3 : ∀ c : Int32, ¬ (τ 0 17 = 3 ∧ τ 0 19 = c) := fun c z => absurd (hK.symm.trans z.1) (by decide)
  have nB := ztn t4
  have es := zsubn (σ 7 5) (σ 7 4) (by rw [t3]; omega) (by rw [t1]; exact t4)
  rw [t3, t1] at es
  have no : z2 (some (0, σ)) (B_X7_part0_84 rec key τ) (RQ key τ) := z2_84 (h3 33) (z2_145 (h3 40) (z2_some h.no))
  have hm1 : ¬ (0 : Int32) ≤ -1 := by decide
  unfold f_X1_readName f_X7_part0
  refine z2_nR (by rw [hK]; decide) (z2_pR hK ?_)
  rw [t3, t1, hTP.1]
  rcases d2 with ⟨d2, d3⟩ | ⟨d2, d3⟩
  · have hlt : (τ 0 15).toInt < (τ 0 16).toInt := by omega
    obtain ⟨l1, l2, l3⟩ := d1 (τ 0 15).toNatClampNeg (by omega) (by omega)
    refine z2_pL (Int32.toInt_inj.mp (by rw [es]; omega)) (z2_nL (fun z => by have := zle z; omega) (z2_pL (zin_mk t4 (by omega)) ?_))
    rw [hTP.2 _ l1, hS.1]
    refine z2_eL (ix_e σ hk l2 l3) ?_
    unfold B_X1_readName_51
    refine z2_nR (fun z => ?_) ?_
    · rw [← d3, z] at l2
      exact absurd l2 (by decide)
    rw [← d3]
    rcases nm_c key (τ 0 19) τ hk with ⟨n1, n2, n3⟩ | ⟨n1, n2⟩
    · refine z2_eR n1 (z2_nR (by decide) (z2_pL n2 ?_))
      exact z2_leaf h (by rw [hK]; decide) (Or.inr (Or.inl ⟨rfl, n3⟩)) (fun s t hR hN => ⟨rfl, Or.inr ⟨rfl, hR, hN⟩⟩)
    · exact z2_eR n1 (z2_pR rfl (z2_nL n2 no))
  · refine z2_nL (fun z => d2 ?_) ?_
    · have := zeq z
      omega
    unfold B_X1_readName_50 B_X1_readName_51
    exact z2_nL hm1 (z2_pR d3 no)
/-- brackets, or nots, counted on both sides -/
theorem PR.u {key v : Int32} {σ τ s t : zg_S} {k k' : Nat} (h : PR key σ τ) (qs : s = zg_up σ 7 k v) (qt : t = zg_up τ 0 k' v) (hk : (k = 6 ∧ k' = 20) ∨ (k = 7 ∧ k' = 21)) (h0 : 0 ≤ v.toInt) (h8 : v.toInt ≤ 8) : PR key s t := by
  obtain ⟨hps, hT, hTP, hS, hO, hL⟩ := h
  have hps' : PS t := hps.u qt (hk.imp (fun z => z.2) (fun z => z.2)) h0 h8
  have rs : ∀ p, p ≠ 7 → s p = σ p := fun p hp => by rw [qs]; exact zg_row_ne hp
  have rt : ∀ p, p ≠ 0 → t p = τ p := fun p hp => by rw [qt]; exact zg_row_ne hp
  have ks : ∀ j, j ≠ k → s 7 j = σ 7 j := fun j hj => by rw [qs]; exact zkeepn hj
  have kt : ∀ j, j ≠ k' → t 0 j = τ 0 j := fun j hj => by rw [qt]; exact zkeepn hj
  have gs : s 7 k = v := by rw [qs]; exact zgot
  have gt : t 0 k' = v := by rw [qt]; exact zgot
  refine ⟨hps', ?_, ?_, hS.k (fun j => congrFun (rs 8 (by decide)) j) (fun j => congrFun (rs 9 (by decide)) j) (kt 22 (by omega)) (kt 23 (by omega)) (rt 1 (by decide)), ?_, ?_⟩
  · unfold TK tok
    rw [ks 4 (by omega), ks 3 (by omega), ks 5 (by omega), kt 14 (by omega), kt 15 (by omega), kt 16 (by omega), kt 17 (by omega), kt 18 (by omega), kt 19 (by omega), rt 13 (by decide)]
    exact hT
  · unfold TP
    rw [ks 2 (by omega), kt 14 (by omega), rt 13 (by decide), rs 6 (by decide)]
    exact hTP
  · unfold OP
    rcases hk with ⟨rfl, rfl⟩ | ⟨rfl, rfl⟩
    · exact ⟨gs.trans gt.symm, (ks 7 (by decide)).trans (hO.2.trans (kt 21 (by decide)).symm)⟩
    · exact ⟨(ks 6 (by decide)).trans (hO.1.trans (kt 20 (by decide)).symm), gs.trans gt.symm⟩
  · exact (congrFun (rs 8 (by decide)) 1).trans (hL.trans (kt 24 (by omega)).symm)
def LVL (dc dr : Nat) (z : Int32) (tag : Nat) : Prop := ∀ (key : Int32) (σ τ : zg_S), KY key → PR key σ τ → 6 - (tag : Int) + mN τ ≤ dr → 8 - (tag : Int) + mN τ ≤ dc → z2 (G_rd dc 0 z σ) (G_mp dr tag key τ) (RQ key τ)
def PCE (dc dr : Nat) : Prop := ∀ (key z0 : Int32) (σ τ : zg_S), KY key → PR key σ τ → 1 + mN τ ≤ dr → 2 + mN τ ≤ dc → z2 (G_rd dc 1 z0 σ) (G_mp dr 5 key τ) (RQ key τ)
theorem z2_not {key : Int32} {σ τ : zg_S} {dc dr : Nat} (hk : KY key) (h : PR key σ τ) (h3 : τ 0 17 = 3) (h19 : τ 0 19 = 33) (ih : PCE dc dr) (hr : mN τ ≤ dr) (hc : mN τ ≤ dc) : z2 (f_X1_readNot (G_rd dc) σ) (B_X7_part0_84 (G_mp dr) key τ) (RQ key τ) := by
  obtain ⟨hps, hT, hTP, hS, hO, hL⟩ := id h
  obtain ⟨q1, q2, q3, q4, q5, q6, q7, q8, q9, q10⟩ := hps
  have e1 := zt_1
  have e8 := zt_8
  have hlt := q5.resolve_left (by rw [h3]; decide)
  unfold f_X1_readNot B_X7_part0_84
  refine z2_eR (e_isSign1 h3 h19) (z2_nR (by decide) ?_)
  rw [hO.2]
  by_cases c8 : (8 : Int32) ≤ τ 0 21
  · have g := zle c8
    refine z2_pR c8 (z2_nL (fun z => by have := zlt z; omega) ?_)
    exact z2_145 (fun z => absurd (h19.symm.trans z.2) (by decide)) (z2_some h.no)
  · have g := znle c8
    refine z2_nR c8 (z2_pL (Int32.lt_iff_toInt_lt.mpr (by omega)) ?_)
    have ea := zTe (zTadd (zTs (τ 0 21)) (zTl zt_1) (by omega) (by omega))
    refine z2_lL (fun s1 qs1 => z2_lR (fun t1 qt1 => ?_))
    have p1 : PR key s1 t1 := h.u qs1 qt1 (Or.inr ⟨rfl, rfl⟩) (by rw [ea]; omega) (by rw [ea]; omega)
    have k21 : t1 0 21 = τ 0 21 + 1 := by rw [qt1]; exact zgot
    have kk : ∀ j, j ≠ 21 → t1 0 j = τ 0 j := fun j hj => by rw [qt1]; exact zkeepn hj
    refine z2_nx p1 (fun _ s2 _ t2 p2 k2 g2 => ?_)
    rw [kk 16 (by decide)] at g2
    have k22 : t2 0 22 = τ 0 22 := (k2.2 22 (by decide)).trans (kk 22 (by decide))
    have n2 : mN t2 = mN τ - 2 := by
      unfold mN
      rw [k2.2 20 (by decide), k2.2 21 (by decide), k21, kk 20 (by decide), ea]
      omega
    refine z2_cc (ih key 0 s2 t2 hk p2 (by omega) (by omega)) (fun r s3 r' t3 hq => ?_)
    obtain ⟨rfl, hq⟩ := hq
    rcases hq with ⟨rfl, hB⟩ | ⟨rfl, p3, m1, m2, m3, m20, m21⟩
    · exact z2_pL rfl (z2_pR rfl (z2_some ⟨rfl, Or.inl ⟨rfl, hB⟩⟩))
    · refine z2_nL (by decide) (z2_nR (by decide) ?_)
      have e21 : t3 0 21 = τ 0 21 + 1 := m21.trans ((k2.2 21 (by decide)).trans k21)
      have ev : t3 0 21 - 1 = τ 0 21 := by rw [e21]; exact Int32.add_sub_cancel _ _
      rw [p3.2.2.2.2.1.2, ev]
      refine z2_lL (fun s5 qs5 => z2_lR (fun t5 qt5 => ?_))
      have p5 : PR key s5 t5 := p3.u qs5 qt5 (Or.inr ⟨rfl, rfl⟩) q9 q10
      have k5 : ∀ j, j ≠ 21 → t5 0 j = t3 0 j := fun j hj => by rw [qt5]; exact zkeepn hj
      have k521 : t5 0 21 = τ 0 21 := by rw [qt5]; exact zgot
      have h522 := congrArg Int32.toInt (k5 22 (by decide))
      have h515 := congrArg Int32.toInt (k5 15 (by decide))
      have g22 := congrArg Int32.toInt k22
      have k520 : t5 0 20 = τ 0 20 := (k5 20 (by decide)).trans (m20.trans ((k2.2 20 (by decide)).trans (kk 20 (by decide))))
      exact z2_step (τ0 := τ) p5 (Or.inr (Or.inr (Or.inl ⟨rfl, rfl, rfl⟩))) (by omega) (by omega) (by omega) (by omega) k520 k521 (fun _ s6 _ t6 p6 n6 _ => z2_some ⟨rfl, Or.inr ⟨rfl, p6, n6⟩⟩)
theorem c_sign {key : Int32} {σ τ : zg_S} (h : PR key σ τ) : f_X1_signHere σ = some (if τ 0 17 = 3 then τ 0 19 else -1000000005, σ) := by
  obtain ⟨hps, hT, hTP, hS, hO, hL⟩ := h
  have f14 : 0 ≤ (τ 0 14).toInt ∧ (τ 0 14).toInt ≤ 96 := hps.1 0 14
  obtain ⟨t1, t2, t3, t4, t5, t6, t7, _, _, tS⟩ := hT
  have e0 := zt_0
  have e95 := zt_95
  unfold f_X1_signHere
  rw [t2]
  by_cases c : τ 0 17 = 3
  · obtain ⟨d1, d2⟩ := tS c
    have nB := ztn t4
    rw [if_pos c, if_pos c, t1, c_within1 σ ⟨by omega, by omega⟩]
    show (if (1 : Int32) = 0 then some ((-1000000005 : Int32), σ) else (if zin (σ 7 4) 96 = true then some (σ 6 (Int32.toNatClampNeg (σ 7 4)), σ) else none)) = _
    rw [if_neg (by decide), t1, if_pos (zin_mk t4 (by omega)), hTP.2 _ (by omega), d2]
  · rw [if_neg c, if_neg c]
theorem z2_bracket {key : Int32} {σ τ : zg_S} {dc dr : Nat} (hk : KY key) (h : PR key σ τ) (h3 : τ 0 17 = 3) (h19 : τ 0 19 = 40) (ih : LVL dc dr 0 0) (hr : mN τ ≤ dr) (hc : mN τ ≤ dc) : z2 (f_X1_readBracket (G_rd dc) σ) (B_X7_part0_145 (G_mp dr) key τ) (RQ key τ) := by
  obtain ⟨hps, hT, hTP, hS, hO, hL⟩ := id h
  obtain ⟨q1, q2, q3, q4, q5, q6, q7, q8, q9, q10⟩ := hps
  have e1 := zt_1
  have e8 := zt_8
  have hlt := q5.resolve_left (by rw [h3]; decide)
  unfold f_X1_readBracket B_X7_part0_145
  refine z2_eR (e_isSign1 h3 h19) (z2_nR (by decide) ?_)
  rw [hO.1]
  by_cases c8 : τ 0 20 = 8
  · have g := zeq c8
    exact z2_pR c8 (z2_nL (fun z => by have := zlt z; omega) (z2_some h.no))
  · have g := zne c8
    refine z2_nR c8 (z2_pL (Int32.lt_iff_toInt_lt.mpr (by omega)) ?_)
    have ea := zTe (zTadd (zTs (τ 0 20)) (zTl zt_1) (by omega) (by omega))
    refine z2_lL (fun s1 qs1 => z2_lR (fun t1 qt1 => ?_))
    have p1 : PR key s1 t1 := h.u qs1 qt1 (Or.inl ⟨rfl, rfl⟩) (by rw [ea]; omega) (by rw [ea]; omega)
    have k20 : t1 0 20 = τ 0 20 + 1 := by rw [qt1]; exact zgot
    have kk : ∀ j, j ≠ 20 → t1 0 j = τ 0 j := fun j hj => by rw [qt1]; exact zkeepn hj
    refine z2_nx p1 (fun _ s2 _ t2 p2 k2 g2 => ?_)
    rw [kk 16 (by decide)] at g2
    have k22 : t2 0 22 = τ 0 22 := (k2.2 22 (by decide)).trans (kk 22 (by decide))
    have n2 : mN t2 = mN τ - 8 := by
      unfold mN
      rw [k2.2 20 (by decide), k2.2 21 (by decide), k20, kk 21 (by decide), ea]
      omega
    refine z2_cc (ih key s2 t2 hk p2 (by omega) (by omega)) (fun r s3 r' t3 hq => ?_)
    obtain ⟨rfl, hq⟩ := hq
    rcases hq with ⟨rfl, hB⟩ | ⟨rfl, p3, m1, m2, m3, m20, m21⟩
    · exact z2_pL rfl (z2_pR rfl (z2_some ⟨rfl, Or.inl ⟨rfl, hB⟩⟩))
    · refine z2_nL (by decide) (z2_nR (by decide) (z2_eL (c_sign p3) ?_))
      by_cases c41 : t3 0 17 = 3 ∧ t3 0 19 = 41
      · refine z2_eR (e_isSign1 c41.1 c41.2) (z2_nR (by decide) (z2_pL (by rw [if_pos c41.1]; exact c41.2) ?_))
        have e20 : t3 0 20 = τ 0 20 + 1 := m20.trans ((k2.2 20 (by decide)).trans k20)
        have ev : t3 0 20 - 1 = τ 0 20 := by rw [e20]; exact Int32.add_sub_cancel _ _
        rw [p3.2.2.2.2.1.1, ev]
        refine z2_lL (fun s5 qs5 => z2_lR (fun t5 qt5 => ?_))
        have p5 : PR key s5 t5 := p3.u qs5 qt5 (Or.inl ⟨rfl, rfl⟩) q7 q8
        have k5 : ∀ j, j ≠ 20 → t5 0 j = t3 0 j := fun j hj => by rw [qt5]; exact zkeepn hj
        have k520 : t5 0 20 = τ 0 20 := by rw [qt5]; exact zgot
        have h522 := congrArg Int32.toInt (k5 22 (by decide))
        have h515 := congrArg Int32.toInt (k5 15 (by decide))
        have h516 := congrArg Int32.toInt (k5 16 (by decide))
        have g22 := congrArg Int32.toInt k22
        have q33 := p3.1.2.2.1
        refine z2_nx p5 (fun _ s6 _ t6 p6 k6 g6 => z2_some ⟨rfl, Or.inr ⟨rfl, p6, ?_⟩⟩)
        have k622 := congrArg Int32.toInt (k6.2 22 (by decide))
        exact ⟨by omega, by omega, by omega, (k6.2 20 (by decide)).trans k520, (k6.2 21 (by decide)).trans ((k5 21 (by decide)).trans (m21.trans ((k2.2 21 (by decide)).trans (kk 21 (by decide)))))⟩
      · refine z2_eR (e_isSign0 c41) (z2_pR rfl (z2_nL (fun z => ?_) (z2_some ⟨rfl, Or.inl ⟨rfl, p3.2.1.1⟩⟩)))
        by_cases c3 : t3 0 17 = 3
        · rw [if_pos c3] at z
          exact c41 ⟨c3, z⟩
        · rw [if_neg c3] at z
          exact absurd z (by decide)
theorem z2_wrap {o o' : Option (Int32 × zg_S)} {key : Int32} {τ : zg_S} (h : z2 o o' (RQ key τ)) : z2 (zbd o (fun r s => if r = 0 ∨ r = 1 then some (r, s) else none)) o' (RQ key τ) := by
  obtain ⟨r, s, r', t, rfl, rfl, hq⟩ := h
  refine z2_pL ?_ (z2_some hq)
  exact hq.2.imp (fun z => z.1) (fun z => z.1)
theorem pce_s {dr : Nat} (ih : ∀ dc, LVL dc dr 0 0 ∧ PCE dc dr) : ∀ dc, PCE dc (dr + 1) := by
  intro dc key z0 σ τ hk h hr hc
  have hn := h.1.n
  obtain ⟨e, rfl⟩ : ∃ e, dc = e + 2 := ⟨dc - 2, by omega⟩
  obtain ⟨ih0, ih5⟩ := ih e
  show z2 (f_X1_readPiece (G_rd (e + 1)) σ) (f_X7_part0 (G_mp dr) key τ) (RQ key τ)
  unfold f_X1_readPiece
  have t2 := h.2.1.2.1
  rw [t2]
  by_cases k1 : τ 0 17 = 1
  · exact z2_pL k1 (z2_wrap (z2_name hk h k1))
  by_cases k2 : τ 0 17 = 2
  · refine z2_nL k1 (z2_pL k2 (z2_wrap (z2_number h k2 ?_)))
    unfold f_X7_part0
    exact z2_pR k2 (z2_leaf h (by rw [k2]; decide) (number_SR h k2) (fun s t hR hN => ⟨rfl, Or.inr ⟨rfl, hR, hN⟩⟩))
  refine z2_nL k1 (z2_nL k2 (z2_eL (c_sign h) ?_))
  unfold f_X7_part0
  refine z2_nR k2 (z2_nR k1 ?_)
  by_cases c33 : τ 0 17 = 3 ∧ τ 0 19 = 33
  · refine z2_pL (by rw [if_pos c33.1]; exact c33.2) (z2_wrap ?_)
    exact z2_not hk h c33.1 c33.2 ih5 (by omega) (by omega)
  · refine z2_nL (fun z => ?_) ?_
    · by_cases c3 : τ 0 17 = 3
      · rw [if_pos c3] at z
        exact c33 ⟨c3, z⟩
      · rw [if_neg c3] at z
        exact absurd z (by decide)
    refine z2_84 c33 ?_
    by_cases c40 : τ 0 17 = 3 ∧ τ 0 19 = 40
    · refine z2_pL (by rw [if_pos c40.1]; exact c40.2) (z2_wrap ?_)
      exact z2_bracket hk h c40.1 c40.2 ih0 (by omega) (by omega)
    · refine z2_nL (fun z => ?_) (z2_145 c40 (z2_some h.no))
      by_cases c3 : τ 0 17 = 3
      · rw [if_pos c3] at z
        exact c40 ⟨c3, z⟩
      · rw [if_neg c3] at z
        exact absurd z (by decide)
end
section
/-! the levels -/
def lvl (a : Int32) : Int32 := (if a = 38 then 1 else (if a = 42 then 4 else (if a = 43 then 3 else (if a = 45 then 3 else (if a = 47 then 4 else (if a = 60 then 2 else (if a = 61 then 2 else (if a = 62 then 2 else (if a = 124 then 0 else -1000000005)))))))))
theorem e_lv (a : Int32) (σ : zg_S) : f_X1_levelOf a σ = some (lvl a, σ) := by
  unfold f_X1_levelOf lvl
  by_cases h0 : a = 38
  · rw [if_pos h0, if_pos h0]
  rw [if_neg h0, if_neg h0]
  by_cases h1 : a = 42
  · rw [if_pos h1, if_pos h1]
  rw [if_neg h1, if_neg h1]
  by_cases h2 : a = 43
  · rw [if_pos h2, if_pos h2]
  rw [if_neg h2, if_neg h2]
  by_cases h3 : a = 45
  · rw [if_pos h3, if_pos h3]
  rw [if_neg h3, if_neg h3]
  by_cases h4 : a = 47
  · rw [if_pos h4, if_pos h4]
  rw [if_neg h4, if_neg h4]
  by_cases h5 : a = 60
  · rw [if_pos h5, if_pos h5]
  rw [if_neg h5, if_neg h5]
  by_cases h6 : a = 61
  · rw [if_pos h6, if_pos h6]
  rw [if_neg h6, if_neg h6]
  by_cases h7 : a = 62
  · rw [if_pos h7, if_pos h7]
  rw [if_neg h7, if_neg h7]
  by_cases h8 : a = 124
  · rw [if_pos h8, if_pos h8]
  rw [if_neg h8, if_neg h8]
theorem lvl_n {a : Int32} (h : ¬ sSg a) : lvl a = -1000000005 := by
  unfold sSg at h
  unfold lvl
  rw [if_neg (fun z => h (Or.inl z)), if_neg (fun z => h (Or.inr (Or.inl z))), if_neg (fun z => h (Or.inr (Or.inr (Or.inl z)))), if_neg (fun z => h (Or.inr (Or.inr (Or.inr (Or.inl z))))), if_neg (fun z => h (Or.inr (Or.inr (Or.inr (Or.inr (Or.inl z)))))), if_neg (fun z => h (Or.inr (Or.inr (Or.inr (Or.inr (Or.inr (Or.inl z))))))), if_neg (fun z => h (Or.inr (Or.inr (Or.inr (Or.inr (Or.inr (Or.inr (Or.inl z)))))))), if_neg (fun z => h (Or.inr (Or.inr (Or.inr (Or.inr (Or.inr (Or.inr (Or.inr (Or.inl z))))))))), if_neg (fun z => h (Or.inr (Or.inr (Or.inr (Or.inr (Or.inr (Or.inr (Or.inr (Or.inr (z))))))))))]
theorem lv0 (a : Int32) : lvl a = 0 ↔ (a = 124) := by
  by_cases h : sSg a
  · rcases h with rfl | rfl | rfl | rfl | rfl | rfl | rfl | rfl | rfl <;> decide
  · rw [lvl_n h]
    refine ⟨fun z => absurd z (by decide), fun z => absurd ?_ h⟩
    unfold sSg
    exact Or.inr (Or.inr (Or.inr (Or.inr (Or.inr (Or.inr (Or.inr (Or.inr (z))))))))
theorem lv1 (a : Int32) : lvl a = 1 ↔ (a = 38) := by
  by_cases h : sSg a
  · rcases h with rfl | rfl | rfl | rfl | rfl | rfl | rfl | rfl | rfl <;> decide
  · rw [lvl_n h]
    refine ⟨fun z => absurd z (by decide), fun z => absurd ?_ h⟩
    unfold sSg
    exact Or.inl z
theorem lv2 (a : Int32) : lvl a = 2 ↔ (a = 60 ∨ a = 61 ∨ a = 62) := by
  by_cases h : sSg a
  · rcases h with rfl | rfl | rfl | rfl | rfl | rfl | rfl | rfl | rfl <;> decide
  · rw [lvl_n h]
    refine ⟨fun z => absurd z (by decide), fun z => absurd ?_ h⟩
    unfold sSg
    rcases z with z | z | z
    · exact Or.inr (Or.inr (Or.inr (Or.inr (Or.inr (Or.inl z)))))
    · exact Or.inr (Or.inr (Or.inr (Or.inr (Or.inr (Or.inr (Or.inl z))))))
    · exact Or.inr (Or.inr (Or.inr (Or.inr (Or.inr (Or.inr (Or.inr (Or.inl z)))))))
theorem lv3 (a : Int32) : lvl a = 3 ↔ (a = 43 ∨ a = 45) := by
  by_cases h : sSg a
  · rcases h with rfl | rfl | rfl | rfl | rfl | rfl | rfl | rfl | rfl <;> decide
  · rw [lvl_n h]
    refine ⟨fun z => absurd z (by decide), fun z => absurd ?_ h⟩
    unfold sSg
    rcases z with z | z
    · exact Or.inr (Or.inr (Or.inl z))
    · exact Or.inr (Or.inr (Or.inr (Or.inl z)))
theorem lv4 (a : Int32) : lvl a = 4 ↔ (a = 42 ∨ a = 47) := by
  by_cases h : sSg a
  · rcases h with rfl | rfl | rfl | rfl | rfl | rfl | rfl | rfl | rfl <;> decide
  · rw [lvl_n h]
    refine ⟨fun z => absurd z (by decide), fun z => absurd ?_ h⟩
    unfold sSg
    rcases z with z | z
    · exact Or.inr (Or.inl z)
    · exact Or.inr (Or.inr (Or.inr (Or.inr (Or.inl z))))
theorem lvS {a z : Int32} (h : lvl a = z) (hz : ¬ z = -1000000005) : sSg a := by
  by_cases c : sSg a
  · exact c
  · exact absurd (h.symm.trans (lvl_n c)) hz
theorem zl2 {bot : Int32 → zg_S → Option (Int32 × zg_S)} {F : (Int32 → zg_S → Option (Int32 × zg_S)) → Int32 → zg_S → Option (Int32 × zg_S)} {bot' : zg_S → Option (Int32 × zg_S)} {F' : (zg_S → Option (Int32 × zg_S)) → zg_S → Option (Int32 × zg_S)} {P : Int32 → zg_S → Int32 → zg_S → Prop} (I : Int32 → zg_S → zg_S → Prop) (μ : zg_S → Nat) (h : ∀ (rec : Int32 → zg_S → Option (Int32 × zg_S)) (rec' : zg_S → Option (Int32 × zg_S)) (x : Int32) (s t : zg_S), I x s t → (∀ (y : Int32) (s' t' : zg_S), I y s' t' → μ t' < μ t → z2 (rec y s') (rec' t') P) → z2 (F rec x s) (F' rec' t) P) : ∀ (n n' : Nat) (x : Int32) (s t : zg_S), I x s t → μ t < n → μ t < n' → z2 (zfix bot F n x s) (zfix bot' F' n' t) P := by
  intro n
  induction n with
  | zero => intro n' x s t _ hm; omega
  | succ n ih =>
    intro n' x s t hI hm hm'
    cases n' with
    | zero => omega
    | succ n' => exact h (zfix bot F n) (zfix bot' F' n') x s t hI (fun y s' t' hI' hlt => ih n' y s' t' hI' (by omega) (by omega))
/-- one look of the class's loop -/
theorem cB {key z x : Int32} {σ τ : zg_S} {rec : Nat → Int32 → zg_S → Option (Int32 × zg_S)} {rc : Int32 → zg_S → Option (Int32 × zg_S)} {o' : Option (Int32 × zg_S)} {P : Int32 → zg_S → Int32 → zg_S → Prop} (h : PR key σ τ) (hz : ¬ (-1000000005 : Int32) = z) (hx : x.toInt ≤ (τ 0 15).toInt) (stop : ¬ (τ 0 17 = 3 ∧ lvl (τ 0 19) = z) → z2 (some (1, σ)) o' P) (go : τ 0 17 = 3 → lvl (τ 0 19) = z → x.toInt < 96 → z2 (zbd (f_X1_advance σ) (fun _ s => zbd (rec 0 (z + 1) s) (fun r s => if r = 0 then some (0, s) else zbd (f_X5_addStep 8 ((-1000) - τ 0 19) s) (fun _ s => if z = 2 then some (1, s) else rc (x + 1) s)))) o' P) : z2 (B_X1_readLevel_24 rec z rc x σ) o' P := by
  have e96 := zt_96
  have hps := h.1
  have f14 : 0 ≤ (τ 0 14).toInt ∧ (τ 0 14).toInt ≤ 96 := hps.1 0 14
  have h16 := hps.2.2.2.1
  unfold B_X1_readLevel_24
  refine z2_iL (fun hc => ?_) (fun hc => ?_)
  · have g := zle hc
    refine stop (fun w => ?_)
    have hlt := hps.2.2.2.2.1.resolve_left (by rw [w.1]; decide)
    omega
  · have g := znle hc
    refine z2_eL (c_sign h) (z2_eL (e_lv _ σ) ?_)
    by_cases c3 : τ 0 17 = 3
    · rw [if_pos c3]
      by_cases cl' : lvl (τ 0 19) = z
      · exact z2_pL cl' (go c3 cl' (by omega))
      · exact z2_nL cl' (stop (fun w => cl' w.2))
    · rw [if_neg c3]
      refine z2_nL (fun w => hz ?_) (stop (fun w => c3 w.1))
      rw [← w]
      decide
/-- a sign, one more piece, and the step that joins -/
theorem z2_join {key z c : Int32} {tag dc dr : Nat} {σ τ τ0 : zg_S} {P : Int32 → zg_S → Int32 → zg_S → Prop} {k k' : Int32 → zg_S → Option (Int32 × zg_S)} (hk : KY key) (h : PR key σ τ) (nd : ND τ0 τ) (h3 : τ 0 17 = 3) (hc : sSg c) (ih : LVL dc dr z tag) (f1 : 6 - (tag : Int) + mN τ0 ≤ dr) (f2 : 8 - (tag : Int) + mN τ0 ≤ dc) (h0 : ∀ s t, s 7 4 = t 0 15 → P 0 s 0 t) (hn : ∀ r s r' t, PR key s t → ND τ0 t → (τ 0 15).toInt < (t 0 15).toInt → z2 (k r s) (k' r' t) P) : z2 (zbd (f_X1_advance σ) (fun _ s => zbd (G_rd dc 0 z s) (fun r s => if r = 0 then some (0, s) else zbd (f_X5_addStep 8 ((-1000) - c) s) k))) (zbd (f_X7_nextToken τ) (fun _ t => zbd (G_mp dr tag key t) (fun r t => if r = 0 then some (0, t) else zbd (f_X7_step 2 c t) k'))) P := by
  obtain ⟨n1, n2, n3, n20, n21⟩ := nd
  have hlt := h.1.2.2.2.2.1.resolve_left (by rw [h3]; decide)
  have l22 := h.1.2.2.2.2.2.1
  refine z2_nx h (fun _ s1 _ t1 p1 k1 g1 => ?_)
  have g22 := congrArg Int32.toInt (k1.2 22 (by decide))
  have em : mN t1 = mN τ0 := mN_eq ((k1.2 20 (by decide)).trans n20) ((k1.2 21 (by decide)).trans n21)
  refine z2_cc (ih key s1 t1 hk p1 (by rw [em]; exact f1) (by rw [em]; exact f2)) (fun r s2 r' t2 hq => ?_)
  obtain ⟨rfl, hq⟩ := hq
  rcases hq with ⟨rfl, hB⟩ | ⟨rfl, p2, m1, m2, m3, m20, m21⟩
  · exact z2_pL rfl (z2_pR rfl (z2_some (h0 s2 t2 hB)))
  · refine z2_nL (by decide) (z2_nR (by decide) ?_)
    exact z2_step (τ0 := τ0) p2 (Or.inr (Or.inr (Or.inr ⟨rfl, hc, rfl⟩))) (by omega) (by omega) (by omega) (by omega) (m20.trans ((k1.2 20 (by decide)).trans n20)) (m21.trans ((k1.2 21 (by decide)).trans n21)) (fun r s3 r' t3 p3 n3' e3 => hn r s3 r' t3 p3 n3' (by rw [e3]; omega))
theorem ND.rf {τ : zg_S} : ND τ τ := ⟨Int.le_refl _, by omega, Int.le_refl _, rfl, rfl⟩
theorem lv_either {dc dr : Nat} (ih : LVL dc dr 1 1) : LVL (dc + 1) (dr + 1) 0 0 := by
  intro key σ τ hk h hr hc
  have e0 := zt_0
  have e1 := zt_1
  have hz1 : (0 : Int32) + 1 = 1 := by decide
  have hm : ¬ (-1000000005 : Int32) = 0 := by decide
  show z2 (f_X1_readLevel (G_rd dc) 0 σ) (f_X7_either (G_mp dr) key τ) (RQ key τ)
  unfold f_X1_readLevel f_X7_either
  refine z2_pL (by decide) ?_
  rw [hz1]
  refine z2_cc (ih key σ τ hk h (by omega) (by omega)) (fun r s r' t hq => ?_)
  obtain ⟨rfl, hq⟩ := hq
  rcases hq with ⟨rfl, hB⟩ | ⟨rfl, p1, d1⟩
  · exact z2_pL rfl (z2_pR rfl (z2_some ⟨rfl, Or.inl ⟨rfl, hB⟩⟩))
  refine z2_nL (by decide) (z2_nR (by decide) ?_)
  have f15 : 0 ≤ (t 0 15).toInt ∧ (t 0 15).toInt ≤ 96 := p1.1.1 0 15
  unfold L_X1_readLevel_24 L_X7_either_10
  refine zl2 (fun x s t => PR key s t ∧ ND τ t ∧ 0 ≤ x.toInt ∧ x.toInt ≤ (t 0 15).toInt) (fun t => (97 - (t 0 15).toInt).toNat) ?_ zfu zfu 0 s t ⟨p1, d1, by omega, by omega⟩ (by unfold zfu; show (97 - (t 0 15).toInt).toNat < 100000; omega) (by unfold zfu; show (97 - (t 0 15).toInt).toNat < 100000; omega)
  intro rec rec' x u v hI ihl
  obtain ⟨pu, du, x0, x1⟩ := hI
  have f15 : 0 ≤ (v 0 15).toInt ∧ (v 0 15).toInt ≤ 96 := pu.1.1 0 15
  unfold B_X7_either_10
  refine cB pu hm x1 (fun hs => ?_) (fun h3 hl hx => ?_)
  · exact z2_eR (e_isSign0 (fun w => hs ⟨w.1, (lv0 _).mpr w.2⟩)) (z2_pR rfl (z2_some ⟨rfl, Or.inr ⟨rfl, pu, du⟩⟩))
  · have h19 := (lv0 _).mp hl
    refine z2_eR (e_isSign1 h3 h19) (z2_nR (by decide) ?_)
    rw [h19, hz1]
    exact z2_join (τ0 := τ) hk pu du h3 (by unfold sSg; decide) ih (by omega) (by omega) (fun s t hB => ⟨rfl, Or.inl ⟨rfl, hB⟩⟩) (fun r s r' t ps dn hlt => z2_nL (by decide) (ihl (x + 1) s t ⟨ps, dn, by rw [zTe (zTadd (zTs x) (zTl zt_1) (by omega) (by omega))]; omega, by rw [zTe (zTadd (zTs x) (zTl zt_1) (by omega) (by omega))]; omega⟩ (by show (97 - (t 0 15).toInt).toNat < (97 - (v 0 15).toInt).toNat; omega)))
theorem lv_both {dc dr : Nat} (ih : LVL dc dr 2 2) : LVL (dc + 1) (dr + 1) 1 1 := by
  intro key σ τ hk h hr hc
  have e0 := zt_0
  have e1 := zt_1
  have hz1 : (1 : Int32) + 1 = 2 := by decide
  have hm : ¬ (-1000000005 : Int32) = 1 := by decide
  show z2 (f_X1_readLevel (G_rd dc) 1 σ) (f_X7_both (G_mp dr) key τ) (RQ key τ)
  unfold f_X1_readLevel f_X7_both
  refine z2_pL (by decide) ?_
  rw [hz1]
  refine z2_cc (ih key σ τ hk h (by omega) (by omega)) (fun r s r' t hq => ?_)
  obtain ⟨rfl, hq⟩ := hq
  rcases hq with ⟨rfl, hB⟩ | ⟨rfl, p1, d1⟩
  · exact z2_pL rfl (z2_pR rfl (z2_some ⟨rfl, Or.inl ⟨rfl, hB⟩⟩))
  refine z2_nL (by decide) (z2_nR (by decide) ?_)
  have f15 : 0 ≤ (t 0 15).toInt ∧ (t 0 15).toInt ≤ 96 := p1.1.1 0 15
  unfold L_X1_readLevel_24 L_X7_both_10
  refine zl2 (fun x s t => PR key s t ∧ ND τ t ∧ 0 ≤ x.toInt ∧ x.toInt ≤ (t 0 15).toInt) (fun t => (97 - (t 0 15).toInt).toNat) ?_ zfu zfu 0 s t ⟨p1, d1, by omega, by omega⟩ (by unfold zfu; show (97 - (t 0 15).toInt).toNat < 100000; omega) (by unfold zfu; show (97 - (t 0 15).toInt).toNat < 100000; omega)
  intro rec rec' x u v hI ihl
  obtain ⟨pu, du, x0, x1⟩ := hI
  have f15 : 0 ≤ (v 0 15).toInt ∧ (v 0 15).toInt ≤ 96 := pu.1.1 0 15
  unfold B_X7_both_10
  refine cB pu hm x1 (fun hs => ?_) (fun h3 hl hx => ?_)
  · exact z2_eR (e_isSign0 (fun w => hs ⟨w.1, (lv1 _).mpr w.2⟩)) (z2_pR rfl (z2_some ⟨rfl, Or.inr ⟨rfl, pu, du⟩⟩))
  · have h19 := (lv1 _).mp hl
    refine z2_eR (e_isSign1 h3 h19) (z2_nR (by decide) ?_)
    rw [h19, hz1]
    exact z2_join (τ0 := τ) hk pu du h3 (by unfold sSg; decide) ih (by omega) (by omega) (fun s t hB => ⟨rfl, Or.inl ⟨rfl, hB⟩⟩) (fun r s r' t ps dn hlt => z2_nL (by decide) (ihl (x + 1) s t ⟨ps, dn, by rw [zTe (zTadd (zTs x) (zTl zt_1) (by omega) (by omega))]; omega, by rw [zTe (zTadd (zTs x) (zTl zt_1) (by omega) (by omega))]; omega⟩ (by show (97 - (t 0 15).toInt).toNat < (97 - (v 0 15).toInt).toNat; omega)))
theorem lv_sum {dc dr : Nat} (ih : LVL dc dr 4 4) : LVL (dc + 1) (dr + 1) 3 3 := by
  intro key σ τ hk h hr hc
  have e0 := zt_0
  have e1 := zt_1
  have hz1 : (3 : Int32) + 1 = 4 := by decide
  have hm : ¬ (-1000000005 : Int32) = 3 := by decide
  show z2 (f_X1_readLevel (G_rd dc) 3 σ) (f_X7_sum (G_mp dr) key τ) (RQ key τ)
  unfold f_X1_readLevel f_X7_sum
  refine z2_pL (by decide) ?_
  rw [hz1]
  refine z2_cc (ih key σ τ hk h (by omega) (by omega)) (fun r s r' t hq => ?_)
  obtain ⟨rfl, hq⟩ := hq
  rcases hq with ⟨rfl, hB⟩ | ⟨rfl, p1, d1⟩
  · exact z2_pL rfl (z2_pR rfl (z2_some ⟨rfl, Or.inl ⟨rfl, hB⟩⟩))
  refine z2_nL (by decide) (z2_nR (by decide) ?_)
  have f15 : 0 ≤ (t 0 15).toInt ∧ (t 0 15).toInt ≤ 96 := p1.1.1 0 15
  unfold L_X1_readLevel_24 L_X7_sum_10
  refine zl2 (fun x s t => PR key s t ∧ ND τ t ∧ 0 ≤ x.toInt ∧ x.toInt ≤ (t 0 15).toInt) (fun t => (97 - (t 0 15).toInt).toNat) ?_ zfu zfu 0 s t ⟨p1, d1, by omega, by omega⟩ (by unfold zfu; show (97 - (t 0 15).toInt).toNat < 100000; omega) (by unfold zfu; show (97 - (t 0 15).toInt).toNat < 100000; omega)
  intro rec rec' x u v hI ihl
  obtain ⟨pu, du, x0, x1⟩ := hI
  have f15 : 0 ≤ (v 0 15).toInt ∧ (v 0 15).toInt ≤ 96 := pu.1.1 0 15
  unfold B_X7_sum_10
  have hj : v 0 17 = 3 → lvl (v 0 19) = 3 → x.toInt < 96 → z2 (zbd (f_X1_advance u) (fun _ s => zbd (G_rd dc 0 (3 + 1) s) (fun r s => if r = 0 then some (0, s) else zbd (f_X5_addStep 8 ((-1000) - v 0 19) s) (fun _ s => if (3 : Int32) = 2 then some (1, s) else rec (x + 1) s)))) (B_X7_sum_28 (G_mp dr) key rec' v) (RQ key τ) := fun h3 hl hx => by
    unfold B_X7_sum_28
    rw [hz1]
    exact z2_join (τ0 := τ) hk pu du h3 (lvS hl (by decide)) ih (by omega) (by omega) (fun s t hB => ⟨rfl, Or.inl ⟨rfl, hB⟩⟩) (fun r s r' t ps dn hlt => z2_nL (by decide) (ihl (x + 1) s t ⟨ps, dn, by rw [zTe (zTadd (zTs x) (zTl zt_1) (by omega) (by omega))]; omega, by rw [zTe (zTadd (zTs x) (zTl zt_1) (by omega) (by omega))]; omega⟩ (by show (97 - (t 0 15).toInt).toNat < (97 - (v 0 15).toInt).toNat; omega)))
  refine cB pu hm x1 (fun hs => ?_) (fun h3 hl hx => ?_)
  · refine z2_eR (e_isSign0 (fun w => hs ⟨w.1, (lv3 _).mpr (Or.inl w.2)⟩)) (z2_pR rfl ?_)
    exact z2_eR (e_isSign0 (fun w => hs ⟨w.1, (lv3 _).mpr (Or.inr w.2)⟩)) (z2_pR rfl (z2_some ⟨rfl, Or.inr ⟨rfl, pu, du⟩⟩))
  · rcases (lv3 _).mp hl with h19 | h19
    · exact z2_eR (e_isSign1 h3 h19) (z2_nR (by decide) (hj h3 hl hx))
    · refine z2_eR (e_isSign0 (fun w => absurd (h19.symm.trans w.2) (by decide))) (z2_pR rfl ?_)
      exact z2_eR (e_isSign1 h3 h19) (z2_nR (by decide) (hj h3 hl hx))
theorem lv_term {dc dr : Nat} (ih : LVL dc dr 5 5) : LVL (dc + 1) (dr + 1) 4 4 := by
  intro key σ τ hk h hr hc
  have e0 := zt_0
  have e1 := zt_1
  have hz1 : (4 : Int32) + 1 = 5 := by decide
  have hm : ¬ (-1000000005 : Int32) = 4 := by decide
  show z2 (f_X1_readLevel (G_rd dc) 4 σ) (f_X7_term (G_mp dr) key τ) (RQ key τ)
  unfold f_X1_readLevel f_X7_term
  refine z2_pL (by decide) ?_
  rw [hz1]
  refine z2_cc (ih key σ τ hk h (by omega) (by omega)) (fun r s r' t hq => ?_)
  obtain ⟨rfl, hq⟩ := hq
  rcases hq with ⟨rfl, hB⟩ | ⟨rfl, p1, d1⟩
  · exact z2_pL rfl (z2_pR rfl (z2_some ⟨rfl, Or.inl ⟨rfl, hB⟩⟩))
  refine z2_nL (by decide) (z2_nR (by decide) ?_)
  have f15 : 0 ≤ (t 0 15).toInt ∧ (t 0 15).toInt ≤ 96 := p1.1.1 0 15
  unfold L_X1_readLevel_24 L_X7_term_10
  refine zl2 (fun x s t => PR key s t ∧ ND τ t ∧ 0 ≤ x.toInt ∧ x.toInt ≤ (t 0 15).toInt) (fun t => (97 - (t 0 15).toInt).toNat) ?_ zfu zfu 0 s t ⟨p1, d1, by omega, by omega⟩ (by unfold zfu; show (97 - (t 0 15).toInt).toNat < 100000; omega) (by unfold zfu; show (97 - (t 0 15).toInt).toNat < 100000; omega)
  intro rec rec' x u v hI ihl
  obtain ⟨pu, du, x0, x1⟩ := hI
  have f15 : 0 ≤ (v 0 15).toInt ∧ (v 0 15).toInt ≤ 96 := pu.1.1 0 15
  unfold B_X7_term_10
  have hj : v 0 17 = 3 → lvl (v 0 19) = 4 → x.toInt < 96 → z2 (zbd (f_X1_advance u) (fun _ s => zbd (G_rd dc 0 (4 + 1) s) (fun r s => if r = 0 then some (0, s) else zbd (f_X5_addStep 8 ((-1000) - v 0 19) s) (fun _ s => if (4 : Int32) = 2 then some (1, s) else rec (x + 1) s)))) (B_X7_term_28 (G_mp dr) key rec' v) (RQ key τ) := fun h3 hl hx => by
    unfold B_X7_term_28
    rw [hz1]
    exact z2_join (τ0 := τ) hk pu du h3 (lvS hl (by decide)) ih (by omega) (by omega) (fun s t hB => ⟨rfl, Or.inl ⟨rfl, hB⟩⟩) (fun r s r' t ps dn hlt => z2_nL (by decide) (ihl (x + 1) s t ⟨ps, dn, by rw [zTe (zTadd (zTs x) (zTl zt_1) (by omega) (by omega))]; omega, by rw [zTe (zTadd (zTs x) (zTl zt_1) (by omega) (by omega))]; omega⟩ (by show (97 - (t 0 15).toInt).toNat < (97 - (v 0 15).toInt).toNat; omega)))
  refine cB pu hm x1 (fun hs => ?_) (fun h3 hl hx => ?_)
  · refine z2_eR (e_isSign0 (fun w => hs ⟨w.1, (lv4 _).mpr (Or.inl w.2)⟩)) (z2_pR rfl ?_)
    exact z2_eR (e_isSign0 (fun w => hs ⟨w.1, (lv4 _).mpr (Or.inr w.2)⟩)) (z2_pR rfl (z2_some ⟨rfl, Or.inr ⟨rfl, pu, du⟩⟩))
  · rcases (lv4 _).mp hl with h19 | h19
    · exact z2_eR (e_isSign1 h3 h19) (z2_nR (by decide) (hj h3 hl hx))
    · refine z2_eR (e_isSign0 (fun w => absurd (h19.symm.trans w.2) (by decide))) (z2_pR rfl ?_)
      exact z2_eR (e_isSign1 h3 h19) (z2_nR (by decide) (hj h3 hl hx))
theorem lv_test {dc dr : Nat} (ih : LVL dc dr 3 3) : LVL (dc + 1) (dr + 1) 2 2 := by
  intro key σ τ hk h hr hc
  have e0 := zt_0
  have e1 := zt_1
  have hz1 : (2 : Int32) + 1 = 3 := by decide
  have hm : ¬ (-1000000005 : Int32) = 2 := by decide
  show z2 (f_X1_readLevel (G_rd dc) 2 σ) (f_X7_test (G_mp dr) key τ) (RQ key τ)
  unfold f_X1_readLevel f_X7_test
  refine z2_pL (by decide) ?_
  rw [hz1]
  refine z2_cc (ih key σ τ hk h (by omega) (by omega)) (fun r s r' t hq => ?_)
  obtain ⟨rfl, hq⟩ := hq
  rcases hq with ⟨rfl, hB⟩ | ⟨rfl, p1, d1⟩
  · exact z2_pL rfl (z2_pR rfl (z2_some ⟨rfl, Or.inl ⟨rfl, hB⟩⟩))
  refine z2_nL (by decide) (z2_nR (by decide) ?_)
  have f15 : 0 ≤ (t 0 15).toInt ∧ (t 0 15).toInt ≤ 96 := p1.1.1 0 15
  obtain ⟨m, hm1⟩ : ∃ m, zfu = m + 1 := ⟨99999, by unfold zfu; rfl⟩
  rw [hm1]
  show z2 (B_X1_readLevel_24 (G_rd dc) 2 (L_X1_readLevel_24 (G_rd dc) 2 m) 0 s) _ _
  have hj : t 0 17 = 3 → lvl (t 0 19) = 2 → z2 (zbd (f_X1_advance s) (fun _ s => zbd (G_rd dc 0 (2 + 1) s) (fun r s => if r = 0 then some (0, s) else zbd (f_X5_addStep 8 ((-1000) - t 0 19) s) (fun _ s => if (2 : Int32) = 2 then some (1, s) else L_X1_readLevel_24 (G_rd dc) 2 m (0 + 1) s)))) (B_X7_test_37 (G_mp dr) key t) (RQ key τ) := fun h3 hl => by
    unfold B_X7_test_37
    rw [hz1]
    exact z2_join (τ0 := τ) hk p1 d1 h3 (lvS hl (by decide)) ih (by omega) (by omega) (fun s t hB => ⟨rfl, Or.inl ⟨rfl, hB⟩⟩) (fun r s r' t ps dn hlt => z2_pL rfl (z2_some ⟨rfl, Or.inr ⟨rfl, ps, dn⟩⟩))
  refine cB p1 hm (by omega) (fun hs => ?_) (fun h3 hl _ => ?_)
  · refine z2_eR (e_isSign0 (fun w => hs ⟨w.1, (lv2 _).mpr (Or.inl w.2)⟩)) (z2_pR rfl ?_)
    refine z2_eR (e_isSign0 (fun w => hs ⟨w.1, (lv2 _).mpr (Or.inr (Or.inl w.2))⟩)) (z2_pR rfl ?_)
    exact z2_eR (e_isSign0 (fun w => hs ⟨w.1, (lv2 _).mpr (Or.inr (Or.inr w.2))⟩)) (z2_pR rfl (z2_some ⟨rfl, Or.inr ⟨rfl, p1, d1⟩⟩))
  · rcases (lv2 _).mp hl with h19 | h19 | h19
    · exact z2_eR (e_isSign1 h3 h19) (z2_nR (by decide) (hj h3 hl))
    · refine z2_eR (e_isSign0 (fun w => absurd (h19.symm.trans w.2) (by decide))) (z2_pR rfl ?_)
      exact z2_eR (e_isSign1 h3 h19) (z2_nR (by decide) (hj h3 hl))
    · refine z2_eR (e_isSign0 (fun w => absurd (h19.symm.trans w.2) (by decide))) (z2_pR rfl ?_)
      refine z2_eR (e_isSign0 (fun w => absurd (h19.symm.trans w.2) (by decide))) (z2_pR rfl ?_)
      exact z2_eR (e_isSign1 h3 h19) (z2_nR (by decide) (hj h3 hl))
theorem lv_5 {dc dr : Nat} (ih : PCE dc dr) : LVL (dc + 1) dr 5 5 := by
  intro key σ τ hk h hr hc
  show z2 (f_X1_readLevel (G_rd dc) 5 σ) (G_mp dr 5 key τ) (RQ key τ)
  unfold f_X1_readLevel
  exact z2_nL (by decide) (z2_wrap (ih key 0 σ τ hk h (by omega) (by omega)))
theorem LVL.z {dc dr : Nat} {z : Int32} {tag : Nat} (ht : tag ≤ 5) (h : dc = 0 ∨ dr = 0) : LVL dc dr z tag := fun key σ τ _ hp hr hc => by
  have := hp.1.n
  omega
theorem both_read : ∀ (dr dc : Nat), LVL dc dr 0 0 ∧ LVL dc dr 1 1 ∧ LVL dc dr 2 2 ∧ LVL dc dr 3 3 ∧ LVL dc dr 4 4 ∧ LVL dc dr 5 5 ∧ PCE dc dr := by
  intro dr
  induction dr with
  | zero =>
    intro dc
    exact ⟨LVL.z (by decide) (Or.inr rfl), LVL.z (by decide) (Or.inr rfl), LVL.z (by decide) (Or.inr rfl), LVL.z (by decide) (Or.inr rfl), LVL.z (by decide) (Or.inr rfl), LVL.z (by decide) (Or.inr rfl), fun key z0 σ τ _ hp hr hc => by have := hp.1.n; omega⟩
  | succ dr ih =>
    have hp : ∀ dc, PCE dc (dr + 1) := pce_s (fun dc => ⟨(ih dc).1, (ih dc).2.2.2.2.2.2⟩)
    intro dc
    cases dc with
    | zero => exact ⟨LVL.z (by decide) (Or.inl rfl), LVL.z (by decide) (Or.inl rfl), LVL.z (by decide) (Or.inl rfl), LVL.z (by decide) (Or.inl rfl), LVL.z (by decide) (Or.inl rfl), LVL.z (by decide) (Or.inl rfl), hp 0⟩
    | succ dc =>
      obtain ⟨_, i1, i2, i3, i4, i5, _⟩ := ih dc
      exact ⟨lv_either i1, lv_both i2, lv_test i3, lv_sum i4, lv_term i5, lv_5 (hp dc), hp (dc + 1)⟩
end
section
/-! the first word -/
theorem c_charAt (q : Nat) (a : Int32) (σ : zg_S) (hq : q < 6) (h0 : 0 ≤ a.toInt) (h1 : a.toInt < (zz_len.getD q 0 : Int)) : zk (f_J0_charAt_5068e q a σ) (fun r s => σ = s ∧ r = (zz_byt.getD q []).getD a.toNatClampNeg 0) := by
  have e0 : (0 : Int32).toInt = 0 := by decide
  have l4 := zlen4 q hq
  have c1 : ¬ a < 0 := fun z => by have := zlt z; omega
  have c2 : a < nI (zz_len.getD q 0) := Int32.lt_iff_toInt_lt.mpr (by rw [nI_toInt (by omega)]; exact h1)
  have z : zin a (zz_len.getD q 0) = true := zin_mk h0 h1
  have j := (zIn z).2
  have cb : ∀ q, q < 6 → ∀ j, j < 4 → vp_nar .char ((Int32.toUInt32 (((zz_byt.getD q []).getD j 0) &&& 255) % 65536).toInt32) = (Int32.toUInt32 (((zz_byt.getD q []).getD j 0) &&& 255) % 65536).toInt32 := by decide +kernel
  have cd : ∀ q, q < 6 → ∀ j, j < 4 → (Int32.toUInt32 (((zz_byt.getD q []).getD j 0) &&& 255) % 65536).toInt32 = (zz_byt.getD q []).getD j 0 := by decide +kernel
  have cc := cb q hq a.toNatClampNeg (by omega)
  have ce := cd q hq a.toNatClampNeg (by omega)
  unfold f_J0_charAt_5068e f_J0_isLatin1_aae02
  refine zk_call (P := fun r s => r = 1 ∧ σ = s) ⟨1, σ, rfl, rfl, rfl⟩ (fun r s hp => ?_)
  obtain ⟨rfl, rfl⟩ := hp
  refine zk_ite (fun h => absurd h (by decide)) (fun _ => ?_)
  refine zk_call (P := fun r s => vp_nar .char r = r ∧ σ = s ∧ r = (zz_byt.getD q []).getD a.toNatClampNeg 0) ?_ (fun r s hp => zk_ck hp.1 (zk_some hp.2))
  unfold f_J1_charAt_3b067
  refine zk_call (P := fun r s => σ = s) ?_ (fun r s hp => ?_)
  · unfold f_J0_checkIndex_df160
    refine zk_call (P := fun r s => σ = s) ?_ (fun r s hp => zk_some hp)
    unfold f_J3_checkIndex_8e157
    exact zk_ite (fun h => absurd h c1) (fun _ => zk_ite (fun _ => zk_some rfl) (fun h => absurd c2 h))
  · subst hp
    exact zk_in z (zk_ck cc (zk_some ⟨cc, rfl, ce⟩))
/-- the piece is the word q -/
def Wd (τ : zg_S) (q : Nat) : Prop := τ 0 17 = 1 ∧ (τ 0 16).toInt - (τ 0 15).toInt = (zz_len.getD q 0 : Int) ∧ ∀ i, i < zz_len.getD q 0 → τ 13 ((τ 0 15).toNatClampNeg + i) = (zz_byt.getD q []).getD i 0
theorem c_isWord {σ τ : zg_S} (q : Nat) (hq : q < 6) (hm : IMc τ) (hT : TK σ τ) (hP : TP σ τ) : zk (f_X1_isWord q σ) (fun r s => σ = s ∧ ((r = 1 ∧ Wd τ q) ∨ (r = 0 ∧ ¬ Wd τ q))) := by
  obtain ⟨t1, t2, t3, t4, t5, t6, t7, tL, _⟩ := hT
  have f14 : 0 ≤ (τ 0 14).toInt ∧ (τ 0 14).toInt ≤ 96 := hm 0 14
  have e0 := zt_0
  have e1 := zt_1
  have l4 := zlen4 q hq
  have nB := ztn t4
  have el : (nI (zz_len.getD q 0)).toInt = (zz_len.getD q 0 : Int) := nI_toInt (by omega)
  have es := zsubn (τ 0 16) (τ 0 15) (by omega) t4
  unfold f_X1_isWord
  rw [t2]
  refine zk_ite (fun hK => ?_) (fun hK => zk_some ⟨rfl, Or.inr ⟨rfl, fun z => hK z.1⟩⟩)
  obtain ⟨d1, _⟩ := tL hK
  refine zk_call (P := fun r s => r = nI (zz_len.getD q 0) ∧ σ = s) ⟨_, _, ej_len _ hq σ, rfl, rfl⟩ (fun r s hp => ?_)
  obtain ⟨rfl, rfl⟩ := hp
  rw [t3, t1]
  refine zk_ite (fun hl => ?_) (fun hl => zk_some ⟨rfl, Or.inr ⟨rfl, fun z => hl (Int32.toInt_inj.mp (by rw [es, el]; exact z.2.1))⟩⟩)
  have gl := zeq hl
  rw [es, el] at gl
  unfold L_X1_isWord_28
  refine zl_I (fun x s => σ = s ∧ 0 ≤ x.toInt ∧ x.toInt ≤ (zz_len.getD q 0 : Int) ∧ ∀ i : Nat, (i : Int) < x.toInt → τ 13 ((τ 0 15).toNatClampNeg + i) = (zz_byt.getD q []).getD i 0) (fun x s => (4 - x.toInt).toNat) ?_ zfu _ _ ⟨rfl, by omega, by omega, fun i hi => by omega⟩ (by unfold zfu; omega)
  intro rec x s hI ih
  obtain ⟨rfl, i1, i2, i3⟩ := hI
  have nx := ztn i1
  unfold B_X1_isWord_28
  refine zk_call (P := fun r s => r = nI (zz_len.getD q 0) ∧ σ = s) ⟨_, _, ej_len _ hq σ, rfl, rfl⟩ (fun r s hp => ?_)
  obtain ⟨rfl, rfl⟩ := hp
  refine zk_ite (fun hc => ?_) (fun hc => ?_)
  · have g := zle hc
    exact zk_some ⟨rfl, Or.inl ⟨rfl, hK, gl, fun i hi => i3 i (by omega)⟩⟩
  have g := znle hc
  have ea := zTe (zTadd (zTs (τ 0 15)) (zTs x) (by omega) (by omega))
  rw [t1]
  have na := ztn (i := τ 0 15 + x) (by omega)
  refine zk_call (a_sortAt (τ 0 15 + x) σ (by omega) (by rw [hP.1]; exact f14.2)) (fun r2 s hp => ?_)
  obtain ⟨rfl, hs⟩ := hp
  have hl' : qL (τ 0 14).toInt (τ 13) (τ 0 15 + x).toNatClampNeg := d1 _ (by omega) (by omega)
  have hl2 : qL (σ 7 2).toInt (σ 6) (τ 0 15 + x).toNatClampNeg := by
    rw [hP.1]
    exact (qL_e hP.2).mpr hl'
  have h1 : r2 = 1 := by
    rcases hs with ⟨_, k⟩ | ⟨k, _⟩ | ⟨_, k⟩ | ⟨_, _, k, _⟩
    · have := hl2.1; omega
    · exact k
    · exact absurd (qLD hl2 k) id
    · exact absurd hl2 k
  refine zk_ite (fun _ => ?_) (fun z => absurd h1 z)
  rw [t1]
  refine zk_in (zin_mk (by omega) (by omega)) ?_
  refine zk_call (c_charAt q x σ hq i1 (by omega)) (fun r3 s hp => ?_)
  obtain ⟨rfl, rfl⟩ := hp
  have hT6 : σ 6 (τ 0 15 + x).toNatClampNeg = τ 13 ((τ 0 15).toNatClampNeg + x.toNatClampNeg) := by
    rw [hP.2 _ hl'.1, show (τ 0 15 + x).toNatClampNeg = (τ 0 15).toNatClampNeg + x.toNatClampNeg by omega]
  rw [hT6]
  refine zk_ite (fun he => ?_) (fun he => ?_)
  · have ex := zTe (zTadd (zTs x) (zTl zt_1) (by omega) (by omega))
    refine ih (x + 1) σ ⟨rfl, by rw [ex]; omega, by rw [ex]; omega, fun i hi => ?_⟩ (by show (4 - (x + 1).toInt).toNat < (4 - x.toInt).toNat; rw [ex]; omega)
    rw [ex] at hi
    by_cases c : (i : Int) < x.toInt
    · exact i3 i c
    · rw [show i = x.toNatClampNeg by omega]
      exact he
  · exact zk_some ⟨rfl, Or.inr ⟨rfl, fun z => he (z.2.2 _ (by omega))⟩⟩
/-- the reference's look at a word -/
theorem r_isWordAt (a1 a2 a3 a4 : Int32) (l : Int) (τ : zg_S) (hm : IMc τ) (hB : (τ 0 15).toInt ≤ (τ 0 16).toInt) (h16 : (τ 0 16).toInt ≤ (τ 0 14).toInt) (hl : (a4 = 0 ∧ l = 3) ∨ (¬ a4 = 0 ∧ l = 4)) : zk (f_X7_isWordAt a1 a2 a3 a4 τ) (fun r s => τ = s ∧ ((r = 1 ∧ (τ 0 17 = 1 ∧ (τ 0 16).toInt - (τ 0 15).toInt = l ∧ τ 13 ((τ 0 15).toNatClampNeg + 0) = a1 ∧ τ 13 ((τ 0 15).toNatClampNeg + 1) = a2 ∧ τ 13 ((τ 0 15).toNatClampNeg + 2) = a3 ∧ (a4 = 0 ∨ τ 13 ((τ 0 15).toNatClampNeg + 3) = a4))) ∨ (r = 0 ∧ ¬ (τ 0 17 = 1 ∧ (τ 0 16).toInt - (τ 0 15).toInt = l ∧ τ 13 ((τ 0 15).toNatClampNeg + 0) = a1 ∧ τ 13 ((τ 0 15).toNatClampNeg + 1) = a2 ∧ τ 13 ((τ 0 15).toNatClampNeg + 2) = a3 ∧ (a4 = 0 ∨ τ 13 ((τ 0 15).toNatClampNeg + 3) = a4))))) := by
  have e1 := zt_1
  have e2 := zt_2
  have e3 := zt_3
  have e4 := zt_4
  have f14 : 0 ≤ (τ 0 14).toInt ∧ (τ 0 14).toInt ≤ 96 := hm 0 14
  have f15 : 0 ≤ (τ 0 15).toInt ∧ (τ 0 15).toInt ≤ 96 := hm 0 15
  have nB := ztn f15.1
  have es := zsubn (τ 0 16) (τ 0 15) (by omega) f15.1
  have ee : ∀ y : Int32, y.toInt = l → zk (B_X7_isWordAt_10 a1 a2 a3 a4 y τ) (fun r s => τ = s ∧ ((r = 1 ∧ (τ 0 17 = 1 ∧ (τ 0 16).toInt - (τ 0 15).toInt = l ∧ τ 13 ((τ 0 15).toNatClampNeg + 0) = a1 ∧ τ 13 ((τ 0 15).toNatClampNeg + 1) = a2 ∧ τ 13 ((τ 0 15).toNatClampNeg + 2) = a3 ∧ (a4 = 0 ∨ τ 13 ((τ 0 15).toNatClampNeg + 3) = a4))) ∨ (r = 0 ∧ ¬ (τ 0 17 = 1 ∧ (τ 0 16).toInt - (τ 0 15).toInt = l ∧ τ 13 ((τ 0 15).toNatClampNeg + 0) = a1 ∧ τ 13 ((τ 0 15).toNatClampNeg + 1) = a2 ∧ τ 13 ((τ 0 15).toNatClampNeg + 2) = a3 ∧ (a4 = 0 ∨ τ 13 ((τ 0 15).toNatClampNeg + 3) = a4))))) := fun y hy => by
    have hl3 : 3 ≤ l := by omega
    unfold B_X7_isWordAt_10
    refine zk_ite (fun c1 => ?_) (fun c1 => zk_some ⟨rfl, Or.inr ⟨rfl, fun z => c1 z.1⟩⟩)
    refine zk_ite (fun c2 => ?_) (fun c2 => zk_some ⟨rfl, Or.inr ⟨rfl, fun z => c2 (Int32.toInt_inj.mp (by rw [es, hy]; exact z.2.1))⟩⟩)
    have g2 := zeq c2
    rw [es, hy] at g2
    have z1 := zTadd (zTs (τ 0 15)) (zTl zt_1) (by omega) (by omega)
    have z2' := zTadd (zTs (τ 0 15)) (zTl zt_2) (by omega) (by omega)
    have i1 : (τ 0 15 + 1).toNatClampNeg = (τ 0 15).toNatClampNeg + 1 := zTn z1 (by omega)
    have i2 : (τ 0 15 + 2).toNatClampNeg = (τ 0 15).toNatClampNeg + 2 := zTn z2' (by omega)
    refine zk_in (zin_mk f15.1 (by omega)) ?_
    refine zk_ite (fun c3 => ?_) (fun c3 => zk_some ⟨rfl, Or.inr ⟨rfl, fun z => c3 z.2.2.1⟩⟩)
    refine zk_in (zin_mkT z1 (by omega) (by omega)) ?_
    rw [i1]
    refine zk_ite (fun c4 => ?_) (fun c4 => zk_some ⟨rfl, Or.inr ⟨rfl, fun z => c4 z.2.2.2.1⟩⟩)
    refine zk_in (zin_mkT z2' (by omega) (by omega)) ?_
    rw [i2]
    refine zk_ite (fun c5 => ?_) (fun c5 => zk_some ⟨rfl, Or.inr ⟨rfl, fun z => c5 z.2.2.2.2.1⟩⟩)
    refine zk_ite (fun c6 => zk_some ⟨rfl, Or.inl ⟨rfl, c1, g2, c3, c4, c5, Or.inl c6⟩⟩) (fun c6 => ?_)
    have hl4 : l = 4 := (hl.resolve_left (fun z => c6 z.1)).2
    have z3 := zTadd (zTs (τ 0 15)) (zTl zt_3) (by omega) (by omega)
    have i3 : (τ 0 15 + 3).toNatClampNeg = (τ 0 15).toNatClampNeg + 3 := zTn z3 (by omega)
    refine zk_in (zin_mkT z3 (by omega) (by omega)) ?_
    rw [i3]
    exact zk_ite (fun c7 => zk_some ⟨rfl, Or.inl ⟨rfl, c1, g2, c3, c4, c5, Or.inr c7⟩⟩) (fun c7 => zk_some ⟨rfl, Or.inr ⟨rfl, fun z => z.2.2.2.2.2.elim c6 c7⟩⟩)
  unfold f_X7_isWordAt
  refine zk_ite (fun h => ee 3 ?_) (fun h => ee 4 ?_)
  · have := (hl.resolve_right (fun z => z.1 h)).2
    omega
  · have := (hl.resolve_left (fun z => h z.1)).2
    omega
theorem Wd0 {τ : zg_S} : Wd τ 0 ↔ (τ 0 17 = 1 ∧ (τ 0 16).toInt - (τ 0 15).toInt = 4 ∧ τ 13 ((τ 0 15).toNatClampNeg + 0) = 109 ∧ τ 13 ((τ 0 15).toNatClampNeg + 1) = 101 ∧ τ 13 ((τ 0 15).toNatClampNeg + 2) = 108 ∧ ((116 : Int32) = 0 ∨ τ 13 ((τ 0 15).toNatClampNeg + 3) = 116)) := by
  refine ⟨fun z => ⟨z.1, z.2.1, z.2.2 0 (by decide), z.2.2 1 (by decide), z.2.2 2 (by decide), Or.inr (z.2.2 3 (by decide))⟩, fun z => ⟨z.1, z.2.1, fun i hi => ?_⟩⟩
  have hi' : i < 4 := hi
  have h3 := z.2.2.2.2.2.resolve_left (by decide)
  have : i = 0 ∨ i = 1 ∨ i = 2 ∨ i = 3 := by omega
  rcases this with rfl | rfl | rfl | rfl
  · exact z.2.2.1
  · exact z.2.2.2.1
  · exact z.2.2.2.2.1
  · exact h3
theorem Wd1 {τ : zg_S} : Wd τ 1 ↔ (τ 0 17 = 1 ∧ (τ 0 16).toInt - (τ 0 15).toInt = 3 ∧ τ 13 ((τ 0 15).toNatClampNeg + 0) = 102 ∧ τ 13 ((τ 0 15).toNatClampNeg + 1) = 101 ∧ τ 13 ((τ 0 15).toNatClampNeg + 2) = 101 ∧ ((0 : Int32) = 0 ∨ τ 13 ((τ 0 15).toNatClampNeg + 3) = 0)) := by
  refine ⟨fun z => ⟨z.1, z.2.1, z.2.2 0 (by decide), z.2.2 1 (by decide), z.2.2 2 (by decide), Or.inl rfl⟩, fun z => ⟨z.1, z.2.1, fun i hi => ?_⟩⟩
  have hi' : i < 3 := hi
  have : i = 0 ∨ i = 1 ∨ i = 2 := by omega
  rcases this with rfl | rfl | rfl
  · exact z.2.2.1
  · exact z.2.2.2.1
  · exact z.2.2.2.2.1
theorem Wd2 {τ : zg_S} : Wd τ 2 ↔ (τ 0 17 = 1 ∧ (τ 0 16).toInt - (τ 0 15).toInt = 4 ∧ τ 13 ((τ 0 15).toNatClampNeg + 0) = 102 ∧ τ 13 ((τ 0 15).toNatClampNeg + 1) = 105 ∧ τ 13 ((τ 0 15).toNatClampNeg + 2) = 110 ∧ ((101 : Int32) = 0 ∨ τ 13 ((τ 0 15).toNatClampNeg + 3) = 101)) := by
  refine ⟨fun z => ⟨z.1, z.2.1, z.2.2 0 (by decide), z.2.2 1 (by decide), z.2.2 2 (by decide), Or.inr (z.2.2 3 (by decide))⟩, fun z => ⟨z.1, z.2.1, fun i hi => ?_⟩⟩
  have hi' : i < 4 := hi
  have h3 := z.2.2.2.2.2.resolve_left (by decide)
  have : i = 0 ∨ i = 1 ∨ i = 2 ∨ i = 3 := by omega
  rcases this with rfl | rfl | rfl | rfl
  · exact z.2.2.1
  · exact z.2.2.2.1
  · exact z.2.2.2.2.1
  · exact h3
def KQ (σ τ : zg_S) (r : Int32) (s : zg_S) (r' : Int32) (t : zg_S) : Prop := σ = s ∧ τ = t ∧ ((r = -1000000005 ∧ r' = -1) ∨ (r = r' ∧ KY r))
theorem z2_key {σ τ : zg_S} (hm : IMc τ) (hT : TK σ τ) (hP : TP σ τ) : z2 (f_X1_keyHere σ) (f_X7_key τ) (KQ σ τ) := by
  have q5 := hT.2.2.2.2.1
  have q6 := hT.2.2.2.2.2.1
  unfold f_X1_keyHere f_X7_key
  refine z2_cL (c_isWord 0 (by decide) hm hT hP) (fun r s hs => z2_cR (r_isWordAt 109 101 108 116 4 τ hm q5 q6 (Or.inr ⟨by decide, rfl⟩)) (fun r' t ht => ?_))
  obtain ⟨rfl, hs⟩ := hs
  obtain ⟨rfl, ht⟩ := ht
  rw [← Wd0] at ht
  rcases hs with ⟨rfl, hs⟩ | ⟨rfl, hs⟩
  · obtain ⟨rfl, -⟩ := ht.resolve_right (fun z => z.2 hs)
    exact z2_nL (by decide) (z2_nR (by decide) (z2_some ⟨rfl, rfl, Or.inr ⟨rfl, Or.inl rfl⟩⟩))
  obtain ⟨rfl, -⟩ := ht.resolve_left (fun z => hs z.2)
  refine z2_pL rfl (z2_pR rfl ?_)
  refine z2_cL (c_isWord 1 (by decide) hm hT hP) (fun r s hs => z2_cR (r_isWordAt 102 101 101 0 3 τ hm q5 q6 (Or.inl ⟨rfl, rfl⟩)) (fun r' t ht => ?_))
  obtain ⟨rfl, hs⟩ := hs
  obtain ⟨rfl, ht⟩ := ht
  rw [← Wd1] at ht
  rcases hs with ⟨rfl, hs⟩ | ⟨rfl, hs⟩
  · obtain ⟨rfl, -⟩ := ht.resolve_right (fun z => z.2 hs)
    exact z2_nL (by decide) (z2_nR (by decide) (z2_some ⟨rfl, rfl, Or.inr ⟨rfl, Or.inr (Or.inl rfl)⟩⟩))
  obtain ⟨rfl, -⟩ := ht.resolve_left (fun z => hs z.2)
  refine z2_pL rfl (z2_pR rfl ?_)
  refine z2_cL (c_isWord 2 (by decide) hm hT hP) (fun r s hs => z2_cR (r_isWordAt 102 105 110 101 4 τ hm q5 q6 (Or.inr ⟨by decide, rfl⟩)) (fun r' t ht => ?_))
  obtain ⟨rfl, hs⟩ := hs
  obtain ⟨rfl, ht⟩ := ht
  rw [← Wd2] at ht
  rcases hs with ⟨rfl, hs⟩ | ⟨rfl, hs⟩
  · obtain ⟨rfl, -⟩ := ht.resolve_right (fun z => z.2 hs)
    exact z2_nL (by decide) (z2_nR (by decide) (z2_some ⟨rfl, rfl, Or.inr ⟨rfl, Or.inr (Or.inr rfl)⟩⟩))
  obtain ⟨rfl, -⟩ := ht.resolve_left (fun z => hs z.2)
  exact z2_pL rfl (z2_pR rfl (z2_some ⟨rfl, rfl, Or.inl ⟨rfl, rfl⟩⟩))
end
section
/-! the whole tape read -/
theorem z2_kR {o o' : Option (Int32 × zg_S)} {P : Int32 → zg_S → Int32 → zg_S → Prop} {Q : Int32 → zg_S → Prop} (h : z2 o o' P) (h' : zk o' Q) : z2 o o' (fun r s r' t => P r s r' t ∧ Q r' t) := by
  obtain ⟨r, s, r', t, e, e', q⟩ := h
  obtain ⟨r2, t2, e2, q2⟩ := h'
  have e3 := e'.symm.trans e2
  injection e3 with e3
  injection e3 with ea eb
  subst ea
  subst eb
  exact ⟨r, s, _, _, e, e', q, q2⟩
theorem held_id {n : Int32} (h0 : 0 ≤ n.toInt) (h1 : n.toInt ≤ 96) : sHeld n 0 96 = n := by
  have e0 := zt_0
  have e96 := zt_96
  unfold sHeld
  rw [show (if (96 : Int32) < n then (96 : Int32) else n) = n from if_neg (fun z => by have := zlt z; omega)]
  by_cases c : (0 : Int32) < n
  · rw [if_pos c]
  · rw [if_neg c]
    have := znlt c
    exact Int32.toInt_inj.mp (by omega)
def PQ (τ : zg_S) (r : Int32) (s : zg_S) (r' : Int32) (t : zg_S) : Prop := t 0 14 = 0 ∧ ((r' = -1 ∧ r = t 0 15 ∧ ¬ r = -1000000005) ∨ (r = -1000000005 ∧ KY r' ∧ SP r' s t ∧ s 8 1 = t 0 24 ∧ 0 ≤ (t 0 22).toInt ∧ (t 0 22).toInt ≤ 96 ∧ mb t = bb τ))
theorem z2_111 {τ s t : zg_S} {x : Int32} (hB : s 7 4 = t 0 15) (it : IMc t) : z2 (some (s 7 4, s)) (B_X7_parse_111 x 0 t) (PQ τ) := by
  have f15 : 0 ≤ (t 0 15).toInt ∧ (t 0 15).toInt ≤ 96 := it 0 15
  unfold B_X7_parse_111
  refine z2_lR (fun u qu => z2_pR rfl (z2_some ⟨by rw [qu]; exact zgot, Or.inl ⟨rfl, ?_, fun z => ?_⟩⟩))
  · rw [qu]
    exact hB.trans (zkeepf rfl).symm
  · rw [← hB, z] at f15
    exact absurd f15.1 (by decide)
theorem c_begin (c : Int32) (σ : zg_S) : zk (f_X5_begin 8 c σ) (fun _ s => (∀ p, p ≠ 8 → s p = σ p) ∧ s 8 0 = c ∧ s 8 1 = 0 ∧ s 8 2 = 0) := by
  unfold f_X5_begin
  refine zk_let (fun a qa => zk_let (fun b qb => zk_let (fun d qd => zk_some ⟨fun p hp => ?_, ?_, ?_, ?_⟩)))
  · rw [qd]; refine (zg_row_ne hp).trans ?_
    rw [qb]; refine (zg_row_ne hp).trans ?_
    rw [qa]; exact zg_row_ne hp
  · rw [qd]; refine (zkeepf rfl).trans ?_
    rw [qb]; refine (zkeepf rfl).trans ?_
    rw [qa]; exact zgot
  · rw [qd]; refine (zkeepf rfl).trans ?_
    rw [qb]; exact zgot
  · rw [qd]; exact zgot
def zk_text (σ : zg_S) : Option (Int32 × zg_S) := zbd (f_X1_advance σ) (fun (r38 : Int32) (σ39 : zg_S) => zbd (f_X1_keyHere σ39) (fun (r45 : Int32) (σ46 : zg_S) => (if r45 = (-1000000005) then some (σ46 7 4, σ46) else zbd (f_X5_begin 8 r45 σ46) (fun (r56 : Int32) (σ57 : zg_S) => zbd (f_X1_advance σ57) (fun (r63 : Int32) (σ64 : zg_S) => zbd (G_rd 128 0 0 σ64) (fun (r70 : Int32) (σ71 : zg_S) => (if r70 = 0 then some (σ71 7 4, σ71) else (if (σ71 7 3) = 0 then some ((-1000000005), σ71) else some (σ71 7 4, σ71)))))))))
theorem z2_60 {σ v τ : zg_S} {y0 : Int32} (hv : IMc v) (hP : TP σ v) (k16 : v 0 16 = 0) (k17 : v 0 17 = 3) (k20 : v 0 20 = 0) (k21 : v 0 21 = 0) (k22 : v 0 22 = 0) (k24 : v 0 24 = 0) (c3 : σ 7 3 = 0) (c5 : σ 7 5 = 0) (c6 : σ 7 6 = 0) (c7 : σ 7 7 = 0) (hy : y0.toNatClampNeg = bb τ) (y1 : 51 ≤ y0.toInt) (y2 : y0.toInt ≤ 2847) : z2 (zk_text σ) (B_X7_parse_60 y0 v) (PQ τ) := by
  have e0 := zt_0
  unfold zk_text B_X7_parse_60
  refine z2_lR (fun w qw => ?_)
  have iw : IMc w := by rw [qw]; exact IMc.up hv (zTs _) trivial
  have kk : ∀ j, j ≠ 23 → w 0 j = v 0 j := fun j hj => by rw [qw]; exact zkeepn hj
  have k1 : ∀ p, p ≠ 0 → w p = v p := fun p hp => by rw [qw]; exact zg_row_ne hp
  have k23 : w 0 23 = y0 := by rw [qw]; exact zgot
  have f14 : 0 ≤ (w 0 14).toInt ∧ (w 0 14).toInt ≤ 96 := iw 0 14
  have w16 : w 0 16 = 0 := (kk 16 (by decide)).trans k16
  have hPw : TP σ w := by
    unfold TP
    rw [kk 14 (by decide), k1 13 (by decide)]
    exact hP
  have hg : TG σ w := by
    unfold TG aG
    rw [c3, w16]
    exact ⟨fun z => absurd z (by decide), fun z => absurd z.1 (by decide)⟩
  refine z2_adv0 iw (by rw [w16]; omega) hPw (c5.trans w16.symm) hg (fun r s r' t hw kt it hT hPt hB => ?_)
  refine z2_cc (z2_key it hT hPt) (fun k s2 k' t2 hq => ?_)
  obtain ⟨rfl, rfl, hq⟩ := hq
  rcases hq with ⟨rfl, rfl⟩ | ⟨rfl, hk⟩
  · refine z2_pL rfl (z2_pR (by decide) ?_)
    unfold B_X7_parse_81
    exact z2_pR rfl (z2_111 hT.1 it)
  · refine z2_nL (fun z => ?_) (z2_nR (fun z => ?_) ?_)
    · subst z; unfold KY at hk; exact absurd hk (by decide)
    · rcases hk with rfl | rfl | rfl
      · exact absurd z (by decide)
      · exact absurd z (by decide)
      · exact absurd z (by decide)
    unfold B_X7_parse_81
    refine z2_nR (by decide) (z2_cL (c_begin k s) (fun _ b hb => ?_))
    obtain ⟨b1, b2, b3, b4⟩ := hb
    have cw : ∀ p j, p ≠ 7 → s p j = σ p j := fun p j hn => hw p j (by unfold W_X1_advance; omega)
    have s76 : s 7 6 = 0 := (hw 7 6 (by unfold W_X1_advance; omega)).trans c6
    have s77 : s 7 7 = 0 := (hw 7 7 (by unfold W_X1_advance; omega)).trans c7
    have t20 : t 0 20 = 0 := (kt.2 20 (by decide)).trans ((kk 20 (by decide)).trans k20)
    have t21 : t 0 21 = 0 := (kt.2 21 (by decide)).trans ((kk 21 (by decide)).trans k21)
    have t22 : t 0 22 = 0 := (kt.2 22 (by decide)).trans ((kk 22 (by decide)).trans k22)
    have t24 : t 0 24 = 0 := (kt.2 24 (by decide)).trans ((kk 24 (by decide)).trans k24)
    have t23 : t 0 23 = y0 := (kt.2 23 (by decide)).trans k23
    have f16 : 0 ≤ (t 0 16).toInt ∧ (t 0 16).toInt ≤ 96 := it 0 16
    have hTb : TK b t := by
      unfold TK
      rw [b1 7 (by decide)]
      exact hT
    have hPb : TP b t := by
      unfold TP
      rw [b1 7 (by decide), b1 6 (by decide)]
      exact hPt
    have hsB : sB t := by
      unfold sB
      rw [t22, t23]
      exact ⟨by omega, by omega, y1, y2⟩
    refine z2_adv (key := k) it hsB hT.2.2.2.2.2.1 (by rw [t22]; omega) (by rw [t20, t21]; decide) hPb hTb.2.2.1 hTb.tg ⟨b2, b4.trans t22.symm, fun i hi => by rw [t22] at hi; omega⟩ ⟨by rw [b1 7 (by decide), s76, t20], by rw [b1 7 (by decide), s77, t21]⟩ (b3.trans t24.symm) (fun _ s3 _ t3 p3 k3 _ => ?_)
    have n3 : mN t3 = 80 := by
      unfold mN
      rw [k3.2 20 (by decide), k3.2 21 (by decide), t20, t21]
      decide
    refine z2_cc (z2_kR ((both_read 128 128).1 k s3 t3 hk p3 (by omega) (by omega)) (s_G_mp 128 0 k t3 (by decide) p3.1 (by omega))) (fun r4 s4 r4' t4 hq => ?_)
    obtain ⟨⟨rfl, hq⟩, hM, _⟩ := hq
    have i4 := hM.1
    rcases hq with ⟨rfl, hB4⟩ | ⟨rfl, p4, _⟩
    · refine z2_pL rfl (z2_pR rfl ?_)
      unfold B_X7_parse_109 B_X7_parse_110
      exact z2_111 hB4 i4
    · refine z2_nL (by decide) (z2_nR (by decide) ?_)
      rw [p4.2.1.2.1]
      by_cases c0 : t4 0 17 = 0
      · refine z2_pL c0 (z2_pR c0 ?_)
        unfold B_X7_parse_110 B_X7_parse_111
        refine z2_lR (fun u qu => z2_nR (by decide) (z2_some ⟨by rw [qu]; exact zgot, Or.inr ⟨rfl, hk, ?_, ?_, ?_, ?_, ?_⟩⟩))
        · exact p4.2.2.2.1.k (fun _ => rfl) (fun _ => rfl) (by rw [qu]; exact zkeepf rfl) (by rw [qu]; exact zkeepf rfl) (by rw [qu]; exact zg_row_ne (by decide))
        · rw [qu]
          exact p4.2.2.2.2.2.trans (zkeepf rfl).symm
        · rw [show u 0 22 = t4 0 22 by rw [qu]; exact zkeepf rfl]
          exact p4.1.2.1.1
        · rw [show u 0 22 = t4 0 22 by rw [qu]; exact zkeepf rfl]
          exact p4.1.2.1.2.1
        · rw [show mb u = mb t4 from congrArg Int32.toNatClampNeg (by rw [qu]; exact zkeepf rfl), mb_eq hM.2.1]
          unfold mb
          rw [k3.2 23 (by decide), t23]
          exact hy
      · refine z2_nL c0 (z2_nR c0 ?_)
        unfold B_X7_parse_109 B_X7_parse_110
        exact z2_111 p4.2.1.1 i4
theorem z2_parse {σ τ : zg_S} (hm : IMc τ) (h10 : σ 0 10 = τ 0 14) (ht : ∀ i : Nat, (i : Int) < (τ 0 14).toInt → σ 6 i = τ 13 i) : z2 (f_X1_readText (σ 0 10) σ) (f_X7_parse τ) (PQ τ) := by
  have e0 := zt_0
  have e4 := zt_4
  have e14 := zt_14
  have f14 : 0 ≤ (τ 0 14).toInt ∧ (τ 0 14).toInt ≤ 96 := hm 0 14
  have f11 : 0 ≤ (τ 1 1).toInt ∧ (τ 1 1).toInt ≤ 14 := hm 1 1
  unfold f_X1_readText
  rw [h10]
  refine z2_eL (c_held _ _ _ σ) ?_
  rw [held_id f14.1 f14.2]
  refine z2_lL (fun s1 q1 => z2_lL (fun s2 q2 => z2_lL (fun s3 q3 => z2_lL (fun s4 q4 => z2_lL (fun s5 q5 => ?_)))))
  have r : ∀ p, p ≠ 7 → s5 p = σ p := fun p hp => by
    rw [q5]; refine (zg_row_ne hp).trans ?_
    rw [q4]; refine (zg_row_ne hp).trans ?_
    rw [q3]; refine (zg_row_ne hp).trans ?_
    rw [q2]; refine (zg_row_ne hp).trans ?_
    rw [q1]; exact zg_row_ne hp
  have c7 : s5 7 7 = 0 := by rw [q5]; exact zgot
  have c6 : s5 7 6 = 0 := by rw [q5]; refine (zkeepf rfl).trans ?_; rw [q4]; exact zgot
  have c5 : s5 7 5 = 0 := by rw [q5]; refine (zkeepf rfl).trans ?_; rw [q4]; refine (zkeepf rfl).trans ?_; rw [q3]; exact zgot
  have c3 : s5 7 3 = 0 := by rw [q5]; refine (zkeepf rfl).trans ?_; rw [q4]; refine (zkeepf rfl).trans ?_; rw [q3]; refine (zkeepf rfl).trans ?_; rw [q2]; exact zgot
  have c2 : s5 7 2 = τ 0 14 := by rw [q5]; refine (zkeepf rfl).trans ?_; rw [q4]; refine (zkeepf rfl).trans ?_; rw [q3]; refine (zkeepf rfl).trans ?_; rw [q2]; refine (zkeepf rfl).trans ?_; rw [q1]; exact zgot
  show z2 (zk_text s5) (f_X7_parse τ) (PQ τ)
  unfold f_X7_parse
  refine z2_lR (fun t1 p1 => z2_lR (fun t2 p2 => z2_lR (fun t3 p3 => z2_lR (fun t4 p4 => z2_lR (fun t5 p5 => z2_lR (fun t6 p6 => ?_))))))
  have h1 : IMc t1 := by rw [p1]; exact IMc.up hm (zTl zt_0) ⟨by omega, by omega⟩
  have h2 : IMc t2 := by rw [p2]; exact IMc.up h1 (zTs _) trivial
  have h3 : IMc t3 := by rw [p3]; exact IMc.up h2 (zTs _) trivial
  have h4 : IMc t4 := by rw [p4]; exact IMc.up h3 (zTs _) trivial
  have h5 : IMc t5 := by rw [p5]; exact IMc.up h4 (zTs _) trivial
  have h6 : IMc t6 := by rw [p6]; exact IMc.up h5 (zTs _) trivial
  have rt : ∀ p, p ≠ 0 → t6 p = τ p := fun p hp => by
    rw [p6]; refine (zg_row_ne hp).trans ?_
    rw [p5]; refine (zg_row_ne hp).trans ?_
    rw [p4]; refine (zg_row_ne hp).trans ?_
    rw [p3]; refine (zg_row_ne hp).trans ?_
    rw [p2]; refine (zg_row_ne hp).trans ?_
    rw [p1]; exact zg_row_ne hp
  have k14 : t6 0 14 = τ 0 14 := by rw [p6]; refine (zkeepf rfl).trans ?_; rw [p5]; refine (zkeepf rfl).trans ?_; rw [p4]; refine (zkeepf rfl).trans ?_; rw [p3]; refine (zkeepf rfl).trans ?_; rw [p2]; refine (zkeepf rfl).trans ?_; rw [p1]; exact zkeepf rfl
  have k24 : t6 0 24 = 0 := by rw [p6]; exact zgot
  have k22 : t6 0 22 = 0 := by rw [p6]; refine (zkeepf rfl).trans ?_; rw [p5]; exact zgot
  have k21 : t6 0 21 = 0 := by rw [p6]; refine (zkeepf rfl).trans ?_; rw [p5]; refine (zkeepf rfl).trans ?_; rw [p4]; exact zgot
  have k20 : t6 0 20 = 0 := by rw [p6]; refine (zkeepf rfl).trans ?_; rw [p5]; refine (zkeepf rfl).trans ?_; rw [p4]; refine (zkeepf rfl).trans ?_; rw [p3]; exact zgot
  have k17 : t6 0 17 = 3 := by rw [p6]; refine (zkeepf rfl).trans ?_; rw [p5]; refine (zkeepf rfl).trans ?_; rw [p4]; refine (zkeepf rfl).trans ?_; rw [p3]; refine (zkeepf rfl).trans ?_; rw [p2]; exact zgot
  have k16 : t6 0 16 = 0 := by rw [p6]; refine (zkeepf rfl).trans ?_; rw [p5]; refine (zkeepf rfl).trans ?_; rw [p4]; refine (zkeepf rfl).trans ?_; rw [p3]; refine (zkeepf rfl).trans ?_; rw [p2]; refine (zkeepf rfl).trans ?_; rw [p1]; exact zgot
  have hP : TP s5 t6 := by
    unfold TP
    rw [c2, k14, rt 13 (by decide), r 6 (by decide)]
    exact ⟨rfl, ht⟩
  have r11 : t6 1 1 = τ 1 1 := congrFun (rt 1 (by decide)) 1
  rw [r11]
  refine z2_iR (fun hl => ?_) (fun hl => ?_)
  · have g := zle hl
    exact z2_60 h6 hP k16 k17 k20 k21 k22 k24 c3 c5 c6 c7 (by unfold bb; rw [if_neg (by omega)]; rfl) (by decide) (by decide)
  · have g := znle hl
    refine z2_cR (s_X7_textAt (τ 1 1) t6 h6 f11.1 (by omega)) (fun rr t hp => ?_)
    obtain ⟨rfl, hr⟩ := hp
    have ea := zTadd (zTl hr) (zTl zt_4) (by omega) (by omega)
    have n1 := ztn f11.1
    exact z2_60 h6 hP k16 k17 k20 k21 k22 k24 c3 c5 c6 c7 (by unfold bb; rw [if_pos (by omega)]; exact zTn ea (by omega)) (by rw [zTe ea]; omega) (by rw [zTe ea]; omega)
end
section
/-! text -/
def AGr (N : Nat) (g g' : Nat → Int32) : Prop := ∀ k, k ≠ 1 → k < 47 + 200 * N → g' k = g k
section
variable {N : Nat} {g g' : Nat → Int32}
theorem gB.ag (a : AGr N g g') (h : gB g) : gB g' := by
  unfold gB
  rw [a 0 (by decide) (by omega), a 2 (by decide) (by omega), a 8 (by decide) (by omega), a 7 (by decide) (by omega), a 9 (by decide) (by omega), a 10 (by decide) (by omega)]
  exact h
theorem gC.ag (a : AGr N g g') (h : gC g) : gC g' := by
  unfold gC
  rw [a 2 (by decide) (by omega), a 3 (by decide) (by omega), a 4 (by decide) (by omega), a 5 (by decide) (by omega)]
  exact h
theorem gSs.ag (a : AGr N g g') (h9 : (g 0).toInt ≤ 9) (h : gSs g) : gSs g' := fun k hk => by
  rw [a 0 (by decide) (by omega)] at hk
  have := h k hk
  unfold gSb
  rw [a (11 + 4 * k) (by omega) (by omega), a (11 + 4 * k + 1) (by omega) (by omega), a (11 + 4 * k + 2) (by omega) (by omega), a (11 + 4 * k + 3) (by omega) (by omega)]
  exact this
theorem sCn_agr (a : AGr N g g') (key : Int32) : ∀ n, n ≤ N → sCn g' key n = sCn g key n := by
  intro n
  induction n with
  | zero => intro _; rfl
  | succ n ih =>
    intro hn
    show (if g' (47 + 200 * n) = key then Int32.ofNat n else sCn g' key n) = if g (47 + 200 * n) = key then Int32.ofNat n else sCn g key n
    rw [a (47 + 200 * n) (by omega) (by omega), ih (by omega)]
theorem TxE.ag {σ : zg_S} {t : Nat} (a : AGr N g g') (ht : t < N) (h96 : (g (47 + 200 * t + 2)).toInt ≤ 96) (x : TxE σ g t) : TxE σ g' t := by
  unfold TxE
  rw [a (47 + 200 * t) (by omega) (by omega), a (47 + 200 * t + 1) (by omega) (by omega), a (47 + 200 * t + 2) (by omega) (by omega)]
  refine ⟨x.1, x.2.1, x.2.2.1, x.2.2.2.1, fun i hi => ?_⟩
  rw [a (47 + 200 * t + 4 + 2 * i) (by omega) (by omega), a (47 + 200 * t + 4 + 2 * i + 1) (by omega) (by omega)]
  exact x.2.2.2.2 i hi
theorem EQB.ag {σ s : zg_S} (a : AGr N g g') (h9 : (g 0).toInt ≤ 9) (h : EQB σ 153 g) (h1 : s 153 4 = g' 1) (h2 : ∀ k, k ≠ 4 → s 153 k = σ 153 k) (h3 : ∀ q k, 156 ≤ q → q ≤ 164 → s q k = σ q k) : EQB s 153 g' := by
  refine ⟨fun i hi => ?_, fun k j hk hj => ?_⟩
  · by_cases c : i = 1
    · subst c
      exact h1
    · rw [a i c (by omega)]
      exact (h2 _ (fun z => c (fm_inj i hi 1 (by decide) z))).trans (h.1 i hi)
  · rw [a 0 (by decide) (by omega)] at hk
    rw [a _ (by omega) (by omega)]
    exact (h3 _ _ (by omega) (by omega)).trans (h.2 k j hk hj)
end
/-- nothing told: the texts are as they were -/
theorem bzA {σ s : zg_S} {g g' : Nat → Int32} (h : BZ σ 153 g) (a : AGr (g 1).toNatClampNeg g g') (a1 : g' 1 = g 1) (w : WF g') (h1 : ∀ q k, 153 ≤ q → q ≤ 164 → s q k = σ q k) (h2 : ∀ q k, 11 ≤ q → q ≤ 52 → q % 3 ≠ 1 → s q k = σ q k) : BZ s 153 g' := by
  obtain ⟨hE, hT, ⟨o1, o2, o3, o4, o5⟩, hC, h9⟩ := h
  have n1 := ztn o3.1
  have hT' := hT.wr o3.2 (fun k => h1 _ k (by omega) (by omega)) h2
  have cc : ∀ key, cC g' key = cC g key := fun key => by
    unfold cC sCt
    rw [a1, sCn_agr a key _ (Nat.le_refl _)]
  refine ⟨hE.ag a o1.1.2 ((h1 153 4 (by decide) (by decide)).trans ((hE.f 1 (by decide)).trans a1.symm)) (fun k _ => h1 153 k (by decide) (by decide)) (fun q k x y => h1 q k (by omega) (by omega)), ⟨?_, fun t ht => ?_⟩, ⟨o1.ag a, o2.ag a o1.1.2, by rw [a1]; exact o3, w, fun t ht => ?_⟩, hC.ag a, by rw [a 2 (by decide) (by omega)]; exact h9⟩
  · rw [cc, cc, cc]
    exact hT'.1
  · rw [a1] at ht
    exact (hT'.2 t ht).ag a (by omega) (o5 t ht)
  · rw [a1] at ht
    rw [a _ (by omega) (by omega)]
    exact o5 t ht
/-- one more text -/
theorem bzB {σ s : zg_S} {g g' : Nat → Int32} {key : Int32} (h : BZ σ 153 g) (hn : (g 1).toInt < 14) (a : AGr (g 1).toNatClampNeg g g') (a1 : g' 1 = g 1 + 1) (w : WF g') (hk : KY key) (gk : g' (47 + 200 * (g 1).toNatClampNeg) = key) (hx : TxE s g' (g 1).toNatClampNeg) (h96 : (g' (47 + 200 * (g 1).toNatClampNeg + 2)).toInt ≤ 96) (h4 : s 153 4 = g 1 + 1) (h1 : ∀ k, k ≠ 4 → s 153 k = σ 153 k) (h5 : s 155 key.toNatClampNeg = g 1) (h5' : ∀ k, k ≠ key.toNatClampNeg → s 155 k = σ 155 k) (h3 : ∀ q k, 156 ≤ q → q ≤ 164 → s q k = σ q k) (h2 : ∀ q k, 11 ≤ q → q ≤ 52 → q % 3 ≠ 1 → q ≠ 11 + 3 * (g 1).toNatClampNeg → q ≠ 11 + 3 * (g 1).toNatClampNeg + 1 → s q k = σ q k) : BZ s 153 g' := by
  obtain ⟨hE, hT, ⟨o1, o2, o3, o4, o5⟩, hC, h9⟩ := h
  have e0 := zt_0
  have e1 := zt_1
  have n1 := ztn o3.1
  have ea := zTe (zTadd (zTs (g 1)) (zTl zt_1) (by omega) (by omega))
  have n2 : (g' 1).toNatClampNeg = (g 1).toNatClampNeg + 1 := by
    have := ztn (i := g 1 + 1) (by omega)
    rw [a1]
    omega
  have sc : ∀ k, sCt g' k = if key = k then g 1 else sCt g k := fun k => by
    unfold sCt
    rw [n2]
    show (if g' (47 + 200 * (g 1).toNatClampNeg) = k then Int32.ofNat (g 1).toNatClampNeg else sCn g' k (g 1).toNatClampNeg) = _
    rw [gk, sCn_agr a k _ (Nat.le_refl _), ← ofNe (x := g 1) (i := (g 1).toNatClampNeg) n1.symm]
  have pg : (0 : Int32) ≤ g 1 := Int32.le_iff_toInt_le.mpr (by omega)
  have cp : cC g' key = g 1 := by
    unfold cC
    rw [sc, if_pos rfl, if_pos pg]
  have cn : ∀ k, ¬ key = k → cC g' k = cC g k := fun k hn => by
    unfold cC
    rw [sc, if_neg hn]
  refine ⟨hE.ag a o1.1.2 (h4.trans a1.symm) h1 h3, ⟨?_, fun t ht => ?_⟩, ⟨o1.ag a, o2.ag a o1.1.2, by rw [a1, ea]; omega, w, fun t ht => ?_⟩, hC.ag a, by rw [a 2 (by decide) (by omega)]; exact h9⟩
  · obtain ⟨⟨x0, x1, x2⟩, _⟩ := hT
    rcases hk with rfl | rfl | rfl
    · exact ⟨h5.trans cp.symm, by rw [cn 1 (by decide)]; exact (h5' 1 (by decide)).trans x1, by rw [cn 2 (by decide)]; exact (h5' 2 (by decide)).trans x2⟩
    · exact ⟨by rw [cn 0 (by decide)]; exact (h5' 0 (by decide)).trans x0, h5.trans cp.symm, by rw [cn 2 (by decide)]; exact (h5' 2 (by decide)).trans x2⟩
    · exact ⟨by rw [cn 0 (by decide)]; exact (h5' 0 (by decide)).trans x0, by rw [cn 1 (by decide)]; exact (h5' 1 (by decide)).trans x1, h5.trans cp.symm⟩
  · rw [a1, ea] at ht
    by_cases c : t = (g 1).toNatClampNeg
    · subst c
      exact hx
    · have ht' : (t : Int) < (g 1).toInt := by omega
      exact ((hT.2 t ht').wr (fun k => h2 _ k (by omega) (by omega) (by omega) (by omega) (by omega)) (fun k => h2 _ k (by omega) (by omega) (by omega) (by omega) (by omega))).ag a (by omega) (o5 t ht')
  · rw [a1, ea] at ht
    by_cases c : t = (g 1).toNatClampNeg
    · subst c
      exact h96
    · rw [a _ (by omega) (by omega)]
      exact o5 t (by omega)
/-- the image, where a text behind all of its own was written -/
theorem R2.t {σ s τ t : zg_S} {N : Nat} (h : R2 σ τ) (hN : (τ 1 1).toInt ≤ N) (a : s 0 12 = σ 0 12) (b : t 0 3 = τ 0 3) (c : t 2 = τ 2) (d : (τ 1 1).toInt ≤ (t 1 1).toInt) (e : ∀ q k, 177 ≤ q → q ≤ 188 → s q k = σ q k) (f : ∀ q k, 11 ≤ q → q ≤ 52 → q % 3 ≠ 1 → q ≠ 11 + 3 * N → q ≠ 11 + 3 * N + 1 → s q k = σ q k) : R2 s t := by
  refine ⟨by rw [a, b]; exact h.1, fun hn => ?_⟩
  rw [b] at hn
  obtain ⟨x, y⟩ := h.2 hn
  rw [c]
  refine ⟨⟨x.1.wr x.2.2.1.1.1.2 (fun q k h1 h2 => e q k (by omega) (by omega)), ?_, x.2.2⟩, by omega⟩
  obtain ⟨⟨x0, x1, x2⟩, x3⟩ := x.2.1
  have n14 := x.2.2.1.2.2.1.2
  exact ⟨⟨(e _ _ (by decide) (by decide)).trans x0, (e _ _ (by decide) (by decide)).trans x1, (e _ _ (by decide) (by decide)).trans x2⟩, fun i hi => (x3 i hi).wr (fun k => f _ k (by omega) (by omega) (by omega) (by omega) (by omega)) (fun k => f _ k (by omega) (by omega) (by omega) (by omega) (by omega))⟩
theorem c_textOver (q0 : Nat) (h : 11 ≤ q0) (σ : zg_S) : zk (f_X5_takeOver q0 8 σ) (fun _ s => s q0 0 = σ 8 0 ∧ s q0 1 = σ 8 1 ∧ s q0 2 = σ 8 2 ∧ (∀ i, i < 96 → s (q0 + 1) i = σ 9 i) ∧ ∀ p, p ≠ q0 → p ≠ q0 + 1 → s p = σ p) := by
  unfold f_X5_takeOver
  refine zk_let (fun s1 e1 => zk_let (fun s2 e2 => zk_let (fun s3 e3 => zk_ite (fun _ => zk_let (fun s4 e4 => zk_some ?_)) (fun z => absurd (by decide) z))))
  have r1 : ∀ p, p ≠ q0 → s1 p = σ p := fun p hp => by rw [e1]; exact zg_row_ne hp
  have r2 : ∀ p, p ≠ q0 → s2 p = σ p := fun p hp => by rw [e2]; exact (zg_row_ne hp).trans (r1 p hp)
  have r3 : ∀ p, p ≠ q0 → s3 p = σ p := fun p hp => by rw [e3]; exact (zg_row_ne hp).trans (r2 p hp)
  have r4 : ∀ p, p ≠ q0 + 1 → s4 p = s3 p := fun p hp => by rw [e4]; exact zg_row_ne hp
  refine ⟨?_, ?_, ?_, fun i hi => ?_, fun p h1 h2 => (r4 p h2).trans (r3 p h1)⟩
  · rw [r4 q0 (by omega), e3]; refine (zkeepf rfl).trans ?_
    rw [e2]; refine (zkeepf rfl).trans ?_
    rw [e1]; exact zgot
  · rw [r4 q0 (by omega), e3]; refine (zkeepf rfl).trans ?_
    rw [e2]; exact zgot.trans (congrFun (r1 8 (by omega)) 1)
  · rw [r4 q0 (by omega), e3]; exact zgot.trans (congrFun (r2 8 (by omega)) 2)
  · rw [e4, zg_row_eq, pk_cpy_in (show (0 : Int32).toNatClampNeg ≤ i from Nat.zero_le _) (show i < (0 : Int32).toNatClampNeg + (96 : Int32).toNatClampNeg from hi), show s3 (8 + 1) = σ 9 from r3 9 (by omega)]
    congr 1
    show 0 + (i - 0) = i
    omega
theorem c_enact (σ : zg_S) (h0 : 0 ≤ (σ 153 4).toInt) (h1 : (σ 153 4).toInt < 14) (hk : KY (σ 8 0)) : zk (f_X0_enact 153 8 σ) (fun r s => r = σ 153 4 ∧ s 153 4 = σ 153 4 + 1 ∧ (∀ k, k ≠ 4 → s 153 k = σ 153 k) ∧ s 155 (σ 8 0).toNatClampNeg = σ 153 4 ∧ (∀ k, k ≠ (σ 8 0).toNatClampNeg → s 155 k = σ 155 k) ∧ s (11 + 3 * (σ 153 4).toNatClampNeg) 0 = σ 8 0 ∧ s (11 + 3 * (σ 153 4).toNatClampNeg) 1 = σ 8 1 ∧ s (11 + 3 * (σ 153 4).toNatClampNeg) 2 = σ 8 2 ∧ (∀ i, i < 96 → s (11 + 3 * (σ 153 4).toNatClampNeg + 1) i = σ 9 i) ∧ ∀ p, p ≠ 153 → p ≠ 155 → p ≠ 11 + 3 * (σ 153 4).toNatClampNeg → p ≠ 11 + 3 * (σ 153 4).toNatClampNeg + 1 → s p = σ p) := by
  have e14 := zt_14
  have nn := ztn h0
  have hkb : (0 : Int32).toInt ≤ (σ 8 0).toInt ∧ (σ 8 0).toInt ≤ (2 : Int32).toInt := by rcases hk with e | e | e <;> (rw [e]; decide)
  have hz : zin (σ 8 0) 3 = true := by rcases hk with e | e | e <;> (rw [e]; decide)
  unfold f_X0_enact
  refine zk_ite (fun z => ?_) (fun _ => ?_)
  · have := zle z
    omega
  refine zk_call (P := fun r s => r = 1 ∧ σ = s) ⟨_, _, c_within1 σ hkb, rfl, rfl⟩ (fun r s hp => ?_)
  obtain ⟨rfl, rfl⟩ := hp
  refine zk_ite (fun z => absurd z (by decide)) (fun _ => zk_in (zin_mk h0 (by omega)) ?_)
  refine zk_call (c_textOver (11 + 3 * (σ 153 4).toNatClampNeg) (by omega) σ) (fun _ t hp => ?_)
  obtain ⟨a0, a1, a2, a3, a4⟩ := hp
  have t8 : t 8 = σ 8 := a4 8 (by omega) (by omega)
  have t153 : t 153 = σ 153 := a4 153 (by omega) (by omega)
  rw [t8, t153]
  refine zk_in hz (zk_let (fun u qu => ?_))
  have u153 : u 153 = σ 153 := by rw [qu]; exact (zg_row_ne (by decide)).trans t153
  rw [u153]
  refine zk_let (fun v qv => ?_)
  have rv : ∀ p, p ≠ 153 → v p = u p := fun p hp => by rw [qv]; exact zg_row_ne hp
  have ru : ∀ p, p ≠ 155 → u p = t p := fun p hp => by rw [qu]; exact zg_row_ne hp
  have v4 : v 153 4 = σ 153 4 + 1 := by rw [qv]; exact zgot
  refine zk_some ⟨by rw [v4]; exact Int32.add_sub_cancel _ _, v4, fun k hk => ?_, ?_, fun k hk => ?_, ?_, ?_, ?_, fun i hi => ?_, fun p h1 h2 h3 h4 => (rv p h1).trans ((ru p h2).trans (a4 p h3 h4))⟩
  · rw [qv]
    exact (zkeepn hk).trans (congrFun u153 k)
  · rw [rv 155 (by decide), qu]
    exact zgot
  · rw [rv 155 (by decide), qu]
    exact (zkeepn hk).trans (congrFun (a4 155 (by omega) (by omega)) k)
  · rw [rv _ (by omega), ru _ (by omega)]
    exact a0
  · rw [rv _ (by omega), ru _ (by omega)]
    exact a1
  · rw [rv _ (by omega), ru _ (by omega)]
    exact a2
  · rw [rv _ (by omega), ru _ (by omega)]
    exact a3 i hi
end
section
theorem v_text {σ τ : zg_S} (h : RR σ τ) (hM : IM τ) : z2 (f_X6_text σ) (f_X7_text τ) SM := by
  obtain ⟨hc, w1, w2⟩ := id hM
  have e0 := zt_0
  have e1 := zt_1
  have e2 := zt_2
  have e14 := zt_14
  have f11 : 0 ≤ (τ 1 1).toInt ∧ (τ 1 1).toInt ≤ 14 := hc 1 1
  have n1 := ztn f11.1
  suffices hh : z2 (f_X6_text σ) (f_X7_text τ) (fun r s r' t => r = r' ∧ (WF (t 1) → RR s t)) by
    exact z2_mono (z2_kR hh (m_text τ hM)) (fun r s r' t q => ⟨q.1.1, q.1.2 q.2.2.1⟩)
  obtain ⟨hB, h2, h3, h4, h5, h6⟩ := h
  unfold f_X6_text f_X7_text
  refine z2_cc (z2_w (z2_kR (z2_parse hc h3.1 h3.2) (m_parse τ hc)) (w_X1_readText (σ 0 10) σ) (w_X7_parse τ)) (fun r s r' t hq => ?_)
  obtain ⟨⟨⟨t14, hq⟩, it, p1, p2, p3, _⟩, ws, wt⟩ := hq
  refine z2_lL (fun s' qs => ?_)
  have cs : ∀ p k, ¬ (p = 0 ∧ k = 10) → p ≠ 7 → p ≠ 8 → p ≠ 9 → s' p k = σ p k := fun p k hn h7 h8 h9 => by
    have ee : s' p k = s p k := by
      rw [qs]
      by_cases c : p = 0
      · subst c
        exact zkeepn (fun z => hn ⟨rfl, z⟩)
      · exact congrFun (zg_row_ne c) k
    exact ee.trans (ws p k (by unfold W_X1_readText; omega))
  have rs : ∀ p, p ≠ 0 → s' p = s p := fun p hp => by rw [qs]; exact zg_row_ne hp
  have s10 : s' 0 10 = 0 := by rw [qs]; exact zgot
  have hb : 47 + 200 * (τ 1 1).toNatClampNeg ≤ bb τ := by
    unfold bb
    by_cases c : (τ 1 1).toInt < 14
    · rw [if_pos c]; omega
    · rw [if_neg c]; omega
  have ag : AGr (τ 1 1).toNatClampNeg (τ 1) (t 1) := fun k _ hk => p3 k (by omega)
  have t11 : t 1 1 = τ 1 1 := p3 1 (by omega)
  have same : WF (t 1) → RR s' t := fun w => by
    refine ⟨bzA hB ag t11 w (fun q k _ _ => cs q k (by omega) (by omega) (by omega) (by omega)) (fun q k _ _ _ => cs q k (by omega) (by omega) (by omega) (by omega)), h2.k (cs 0 12 (by omega) (by omega) (by omega) (by omega)) (p2 3 (by omega)) (p1 2 (by decide) (by decide)) (by rw [t11]; exact Int.le_refl _) (fun q k _ _ => cs q k (by omega) (by omega) (by omega) (by omega)) (fun q k _ _ _ => cs q k (by omega) (by omega) (by omega) (by omega)), ⟨s10.trans t14.symm, fun i hi => ?_⟩, h4.k (cs 0 11 (by omega) (by omega) (by omega) (by omega)) (p2 29 (by omega)) (fun k => cs 5 k (by omega) (by omega) (by omega) (by omega)) (fun k => congrFun (p1 17 (by decide) (by decide)) k), h5.k (fun q k _ _ => cs q k (by omega) (by omega) (by omega) (by omega)) (fun k => congrFun (p1 4 (by decide) (by decide)) k) (fun k => congrFun (p1 5 (by decide) (by decide)) k) (fun k => congrFun (p1 6 (by decide) (by decide)) k), h6.k (fun q k _ _ => cs q k (by omega) (by omega) (by omega) (by omega)) (fun p k _ _ => congrFun (p1 p (by omega) (by omega)) k)⟩
    rw [t14] at hi
    omega
  rcases hq with ⟨rfl, hr, hn⟩ | ⟨rfl, hk, hS, hL, l0, l1, hmb⟩
  · exact z2_nL hn (z2_nR (by decide) (z2_some ⟨by rw [hr], same⟩))
  have hB4 : s' 153 4 = τ 1 1 := (cs 153 4 (by omega) (by omega) (by omega) (by omega)).trans (hB.1.f 1 (by decide))
  refine z2_pL rfl (z2_pR (by rcases hk with rfl | rfl | rfl <;> decide) ?_)
  rw [hB4, t11]
  by_cases c14 : τ 1 1 = 14
  · have g := zeq c14
    exact z2_pR c14 (z2_nL (fun z => by have := zlt z; omega) (z2_some ⟨rfl, same⟩))
  have g := zne c14
  have hlt : (τ 1 1).toInt < 14 := by omega
  refine z2_nR c14 (z2_pL (Int32.lt_iff_toInt_lt.mpr (by omega)) ?_)
  have hbb : bb τ = 51 + 200 * (τ 1 1).toNatClampNeg := by unfold bb; rw [if_pos hlt]
  have s80 : s' 8 0 = r' := (congrFun (rs 8 (by decide)) 0).trans hS.1
  refine z2_cL (c_enact s' (by rw [hB4]; exact f11.1) (by rw [hB4]; exact hlt) (by rw [s80]; exact hk)) (fun rc s2 hp => ?_)
  rw [hB4, s80, show s' 8 1 = t 0 24 from (congrFun (rs 8 (by decide)) 1).trans hL, show s' 8 2 = t 0 22 from (congrFun (rs 8 (by decide)) 2).trans hS.2.1, rs 9 (by decide)] at hp
  obtain ⟨rfl, a1, a2, a3, a4, a5, a6, a7, a8, a9⟩ := hp
  refine z2_cR (s_X7_textAt (τ 1 1) t it f11.1 (by omega)) (fun r14 t' hp => ?_)
  obtain ⟨rfl, hr⟩ := hp
  have z0 := zTadd (zTl hr) (zTl zt_0) (by omega) (by omega)
  have z1 := zTadd (zTl hr) (zTl zt_1) (by omega) (by omega)
  have zz := zTadd (zTl hr) (zTl zt_2) (by omega) (by omega)
  have i0 : (r14 + 0).toNatClampNeg = 47 + 200 * (τ 1 1).toNatClampNeg := zTn z0 (by omega)
  have i1 : (r14 + 1).toNatClampNeg = 47 + 200 * (τ 1 1).toNatClampNeg + 1 := zTn z1 (by omega)
  have i2 : (r14 + 2).toNatClampNeg = 47 + 200 * (τ 1 1).toNatClampNeg + 2 := zTn zz (by omega)
  refine z2_pR (zin_mkT z0 (by omega) (by omega)) ?_
  rw [i0]
  refine z2_lR (fun t1 q1 => z2_pR (zin_mkT z1 (by omega) (by omega)) ?_)
  rw [i1]
  refine z2_lR (fun t2 q2 => z2_pR (zin_mkT zz (by omega) (by omega)) ?_)
  rw [i2]
  refine z2_lR (fun t3 q3 => ?_)
  have rr : ∀ p, p ≠ 1 → t3 p = t p := fun p hp => by
    rw [q3]; refine (zg_row_ne hp).trans ?_
    rw [q2]; refine (zg_row_ne hp).trans ?_
    rw [q1]; exact zg_row_ne hp
  have t311 : t3 1 1 = τ 1 1 := by
    rw [q3]; refine (zkeepn (by omega)).trans ?_
    rw [q2]; refine (zkeepn (by omega)).trans ?_
    rw [q1]; exact (zkeepn (by omega)).trans t11
  rw [t311]
  have ea := zTe (zTadd (zTs (τ 1 1)) (zTl zt_1) (by omega) (by omega))
  refine z2_lR (fun t4 q4 => ?_)
  have r4 : ∀ p, p ≠ 1 → t4 p = t p := fun p hp => by
    rw [q4]; exact (zg_row_ne hp).trans (rr p hp)
  have k4 : ∀ j, j ≠ 1 → (j < 47 + 200 * (τ 1 1).toNatClampNeg ∨ 47 + 200 * (τ 1 1).toNatClampNeg + 2 < j) → t4 1 j = t 1 j := fun j hj hj2 => by
    rw [q4]; refine (zkeepn hj).trans ?_
    rw [q3]; refine (zkeepn (by omega)).trans ?_
    rw [q2]; refine (zkeepn (by omega)).trans ?_
    rw [q1]; exact zkeepn (by omega)
  have k40 : t4 1 (47 + 200 * (τ 1 1).toNatClampNeg) = r' := by
    rw [q4]; refine (zkeepn (by omega)).trans ?_
    rw [q3]; refine (zkeepn (by omega)).trans ?_
    rw [q2]; refine (zkeepn (by omega)).trans ?_
    rw [q1]; exact zgot
  have k41 : t4 1 (47 + 200 * (τ 1 1).toNatClampNeg + 1) = t 0 24 := by
    rw [q4]; refine (zkeepn (by omega)).trans ?_
    rw [q3]; refine (zkeepn (by omega)).trans ?_
    rw [q2]; refine zgot.trans ?_
    rw [q1]; exact congrFun (zup_ne rfl) 24
  have k42 : t4 1 (47 + 200 * (τ 1 1).toNatClampNeg + 2) = t 0 22 := by
    rw [q4]; refine (zkeepn (by omega)).trans ?_
    rw [q3]; refine zgot.trans ?_
    rw [q2]; refine (congrFun (zup_ne rfl) 22).trans ?_
    rw [q1]; exact congrFun (zup_ne rfl) 22
  have t411 : t4 1 1 = τ 1 1 + 1 := by rw [q4]; exact zgot
  have r40 : t4 0 = t 0 := r4 0 (by decide)
  have cs2 : ∀ p k, ¬ (p = 0 ∧ k = 10) → p ≠ 7 → p ≠ 8 → p ≠ 9 → p ≠ 153 → p ≠ 155 → p ≠ 11 + 3 * (τ 1 1).toNatClampNeg → p ≠ 11 + 3 * (τ 1 1).toNatClampNeg + 1 → s2 p k = σ p k := fun p k x1 x2 x3 x4 y1 y2 y3 y4 => (congrFun (a9 p y1 y2 y3 y4) k).trans (cs p k x1 x2 x3 x4)
  refine z2_some ⟨by rw [t411]; exact (Int32.add_sub_cancel _ _).symm, fun w => ?_⟩
  refine ⟨bzB (key := r') hB hlt (fun k hk1 hk2 => (k4 k hk1 (by omega)).trans (ag k hk1 hk2)) t411 w hk k40 ?_ (by rw [k42]; exact l1) a1 (fun k hk => (a2 k hk).trans (cs 153 k (by omega) (by omega) (by omega) (by omega))) a3 (fun k hk => (a4 k hk).trans (cs 155 k (by omega) (by omega) (by omega) (by omega))) (fun q k _ _ => cs2 q k (by omega) (by omega) (by omega) (by omega) (by omega) (by omega) (by omega) (by omega)) (fun q k _ _ _ y1 y2 => cs2 q k (by omega) (by omega) (by omega) (by omega) (by omega) (by omega) y1 y2), ?_, ?_, ?_, ?_, ?_⟩
  · refine ⟨a5.trans k40.symm, a6.trans k41.symm, a7.trans k42.symm, by rw [k40]; exact hk, fun i hi => ?_⟩
    rw [k42] at hi
    have hx := hS.2.2 i hi
    rw [hmb, hbb] at hx
    rw [k40, a8 i (by omega), k4 _ (by omega) (by omega), k4 _ (by omega) (by omega), show 47 + 200 * (τ 1 1).toNatClampNeg + 4 + 2 * i = 51 + 200 * (τ 1 1).toNatClampNeg + 2 * i by omega]
    exact hx
  · exact R2.t (N := (τ 1 1).toNatClampNeg) h2 (by omega) (cs2 0 12 (by omega) (by omega) (by omega) (by omega) (by omega) (by omega) (by omega) (by omega)) (by rw [r40]; exact p2 3 (by omega)) ((r4 2 (by decide)).trans (p1 2 (by decide) (by decide))) (by rw [t411, ea]; omega) (fun q k _ _ => cs2 q k (by omega) (by omega) (by omega) (by omega) (by omega) (by omega) (by omega) (by omega)) (fun q k _ _ _ y1 y2 => cs2 q k (by omega) (by omega) (by omega) (by omega) (by omega) (by omega) y1 y2)
  · refine ⟨((congrFun (a9 0 (by omega) (by omega) (by omega) (by omega)) 10).trans s10).trans (by rw [r40]; exact t14.symm), fun i hi => ?_⟩
    rw [r40, t14] at hi
    omega
  · exact h4.k (cs2 0 11 (by omega) (by omega) (by omega) (by omega) (by omega) (by omega) (by omega) (by omega)) (by rw [r40]; exact p2 29 (by omega)) (fun k => cs2 5 k (by omega) (by omega) (by omega) (by omega) (by omega) (by omega) (by omega) (by omega)) (fun k => congrFun ((r4 17 (by decide)).trans (p1 17 (by decide) (by decide))) k)
  · exact h5.k (fun q k _ _ => cs2 q k (by omega) (by omega) (by omega) (by omega) (by omega) (by omega) (by omega) (by omega)) (fun k => congrFun ((r4 4 (by decide)).trans (p1 4 (by decide) (by decide))) k) (fun k => congrFun ((r4 5 (by decide)).trans (p1 5 (by decide) (by decide))) k) (fun k => congrFun ((r4 6 (by decide)).trans (p1 6 (by decide) (by decide))) k)
  · exact h6.k (fun q k _ _ => cs2 q k (by omega) (by omega) (by omega) (by omega) (by omega) (by omega) (by omega) (by omega)) (fun p k _ _ => congrFun ((r4 p (by omega)).trans (p1 p (by omega) (by omega))) k)
end
section
/-! ALL CALLS: both sides answer alike (whose: its answer is left out), and what holds between them is kept -/
theorem mz (p k : Nat) : mconI p k 0 := by
  unfold mconI
  split <;> (try split) <;> first | trivial | omega
theorem xz (kd k : Nat) : xconI kd k 0 := by
  unfold xconI
  split <;> first | trivial | omega
theorem IX0 (fd : Nat → Nat → Int32) : IX (x0 fd) := by
  intro p k
  unfold xcon x0
  generalize xkd p = kd
  match kd with
  | 0 =>
    match k with
    | 0 => trivial
    | 1 => trivial
    | 2 => trivial
    | 3 => exact xz 0 3
    | 4 => exact xz 0 4
    | k + 5 => trivial
  | 1 => exact xz 1 k
  | 2 =>
    match k with
    | 0 => trivial
    | k + 1 => exact xz 2 (k + 1)
  | 3 => exact xz 3 k
  | 4 => exact xz 4 k
  | 5 => exact xz 5 k
  | 6 => exact xz 6 k
  | 7 => exact xz 7 k
  | 8 => trivial
  | kd + 9 => trivial
theorem IM0 {fm : Nat → Nat → Int32} (h : ini2 fm) : IM (m0 fm) := by
  have h0 := h.1
  have h1 := h.2.1
  refine ⟨fun p k => ?_, fun t ht => ?_, fun hn => absurd rfl hn⟩
  · match p with
    | 0 => exact mz 0 k
    | 1 =>
      match k with
      | 0 => show mconI 1 0 (fm 1 0).toInt; rw [h0]; exact mz 1 0
      | 1 => show mconI 1 1 (fm 1 1).toInt; rw [h1]; exact mz 1 1
      | k + 2 => trivial
    | 2 => exact mz 2 k
    | 3 => exact mz 3 k
    | 4 => trivial
    | p + 5 => exact mz (p + 5) k
  · have e : (m0 fm 1 1).toInt = 0 := by show (fm 1 1).toInt = 0; rw [h1]; exact zt_0
    omega
theorem z2_all {o o' : Option (Int32 × zg_S)} {P : Int32 → zg_S → Int32 → zg_S → Prop} {Q Q' : Int32 → zg_S → Prop} (h : z2 o o' P) (h1 : zk o Q) (h2 : zk o' Q') : ∃ (r : Int32) (s : zg_S) (r' : Int32) (t : zg_S), o = some (r, s) ∧ o' = some (r', t) ∧ P r s r' t ∧ Q r s ∧ Q' r' t := by
  obtain ⟨r, s, r', t, e, e', q⟩ := h
  obtain ⟨r1, s1, e1, q1⟩ := h1
  obtain ⟨r2, t2, e2, q2⟩ := h2
  have e3 := e.symm.trans e1
  have e4 := e'.symm.trans e2
  injection e3 with e3
  injection e3 with ea eb
  injection e4 with e4
  injection e4 with ec ed
  subst ea
  subst eb
  subst ec
  subst ed
  exact ⟨_, _, _, _, e, e', q, q1, q2⟩
def lw_R (σ τ : zg_S) : Prop := IX σ ∧ IM τ ∧ RR σ τ
theorem lw_R0 {fd fm : Nat → Nat → Int32} (h1 : ini1 fd) (h2 : ini2 fm) : lw_R (x0 fd) (m0 fm) := ⟨IX0 fd, IM0 h2, RR0 h1 h2⟩
theorem sv_stall {σ τ : zg_S} (h : lw_R σ τ) (a0 a1 a2 : Int32) : ∃ (r : Int32) (σ' : zg_S) (r' : Int32) (τ' : zg_S), f_X6_stall a0 a1 a2 σ = some (r, σ') ∧ f_X7_stall a0 a1 a2 τ = some (r', τ') ∧ lw_R σ' τ' ∧ r = r' := by
  obtain ⟨r, s, r', t, e, e', hv, hs, ht⟩ := z2_all (v_stall h.2.2 a0 a1 a2) (s_X6_stall a0 a1 a2 σ h.1) (s_X7_stall a0 a1 a2 τ h.2.1.1)
  exact ⟨r, s, r', t, e, e', ⟨hs, h.2.1.hi ht.1 ht.2, hv.2⟩, hv.1⟩
theorem sv_told {σ τ : zg_S} (h : lw_R σ τ) (a0 a1 : Int32) : ∃ (r : Int32) (σ' : zg_S) (r' : Int32) (τ' : zg_S), f_X6_told a0 a1 σ = some (r, σ') ∧ f_X7_told a0 a1 τ = some (r', τ') ∧ lw_R σ' τ' ∧ r = r' := by
  obtain ⟨r, s, r', t, e, e', hv, hs, ht⟩ := z2_all (v_told h.2.2 a0 a1) (s_X6_told a0 a1 σ h.1) (s_X7_told a0 a1 τ h.2.1.1 h.2.1.2.1)
  exact ⟨r, s, r', t, e, e', ⟨hs, h.2.1.hi ht.1 ht.2, hv.2⟩, hv.1⟩
theorem sv_as {σ τ : zg_S} (h : lw_R σ τ) (a0 a1 : Int32) : ∃ (r : Int32) (σ' : zg_S) (r' : Int32) (τ' : zg_S), f_X6_as a0 a1 σ = some (r, σ') ∧ f_X7_as a0 a1 τ = some (r', τ') ∧ lw_R σ' τ' ∧ r = r' := by
  obtain ⟨r, s, r', t, e, e', hv, hs, ht⟩ := z2_all (v_as h.2.2 a0 a1) (s_X6_as a0 a1 σ h.1) (s_X7_as a0 a1 τ h.2.1.1)
  exact ⟨r, s, r', t, e, e', ⟨by rw [← hs]; exact h.1, by rw [← ht]; exact h.2.1, hv.2⟩, hv.1⟩
theorem sv_turns {σ τ : zg_S} (h : lw_R σ τ) (a0 a1 : Int32) : ∃ (r : Int32) (σ' : zg_S) (r' : Int32) (τ' : zg_S), f_X6_turns a0 a1 σ = some (r, σ') ∧ f_X7_turns a0 a1 τ = some (r', τ') ∧ lw_R σ' τ' ∧ r = r' := by
  obtain ⟨r, s, r', t, e, e', hv, hs, ht⟩ := z2_all (v_turns h.2.2 a0 a1) (s_X6_turns a0 a1 σ h.1) (s_X7_turns a0 a1 τ h.2.1.1)
  exact ⟨r, s, r', t, e, e', ⟨hs, h.2.1.hi ht.1 ht.2, hv.2⟩, hv.1⟩
theorem sv_set {σ τ : zg_S} (h : lw_R σ τ) (a0 a1 a2 : Int32) : ∃ (r : Int32) (σ' : zg_S) (r' : Int32) (τ' : zg_S), f_X6_set a0 a1 a2 σ = some (r, σ') ∧ f_X7_set a0 a1 a2 τ = some (r', τ') ∧ lw_R σ' τ' ∧ r = r' := by
  obtain ⟨r, s, r', t, e, e', hv, hs, ht⟩ := z2_all (v_set h.2.2 a0 a1 a2) (s_X6_set a0 a1 a2 σ h.1) (s_X7_set a0 a1 a2 τ h.2.1.1)
  exact ⟨r, s, r', t, e, e', ⟨hs, h.2.1.hi ht.1 ht.2, hv.2⟩, hv.1⟩
theorem sv_cloth {σ τ : zg_S} (h : lw_R σ τ) (a0 : Int32) : ∃ (r : Int32) (σ' : zg_S) (r' : Int32) (τ' : zg_S), f_X6_cloth a0 σ = some (r, σ') ∧ f_X7_cloth a0 τ = some (r', τ') ∧ lw_R σ' τ' ∧ r = r' := by
  obtain ⟨r, s, r', t, e, e', hv, hs, ht⟩ := z2_all (v_cloth h.2.2 a0) (s_X6_cloth a0 σ h.1) (s_X7_cloth a0 τ h.2.1.1)
  exact ⟨r, s, r', t, e, e', ⟨by rw [← hs]; exact h.1, by rw [← ht]; exact h.2.1, hv.2⟩, hv.1⟩
theorem sv_rule {σ τ : zg_S} (h : lw_R σ τ) (a0 a1 : Int32) : ∃ (r : Int32) (σ' : zg_S) (r' : Int32) (τ' : zg_S), f_X6_rule a0 a1 σ = some (r, σ') ∧ f_X7_rule a0 a1 τ = some (r', τ') ∧ lw_R σ' τ' ∧ r = r' := by
  obtain ⟨r, s, r', t, e, e', hv, hs, ht⟩ := z2_all (v_rule h.2.2 a0 a1) (s_X6_rule a0 a1 σ h.1) (s_X7_rule a0 a1 τ h.2.1.1)
  exact ⟨r, s, r', t, e, e', ⟨hs, h.2.1.hi ht.1 ht.2, hv.2⟩, hv.1⟩
theorem sv_deal {σ τ : zg_S} (h : lw_R σ τ) (a0 : Int32) : ∃ (r : Int32) (σ' : zg_S) (r' : Int32) (τ' : zg_S), f_X6_deal a0 σ = some (r, σ') ∧ f_X7_deal a0 τ = some (r', τ') ∧ lw_R σ' τ' ∧ r = r' := by
  obtain ⟨r, s, r', t, e, e', hv, hs, ht⟩ := z2_all (v_deal h.2.2 a0) (s_X6_deal a0 σ h.1) (s_X7_deal a0 τ h.2.1.1)
  exact ⟨r, s, r', t, e, e', ⟨hs, h.2.1.hi ht.1 ht.2, hv.2⟩, hv.1⟩
theorem sv_seed {σ τ : zg_S} (h : lw_R σ τ) (a0 : Int32) : ∃ (r : Int32) (σ' : zg_S) (r' : Int32) (τ' : zg_S), f_X6_seed a0 σ = some (r, σ') ∧ f_X7_seed a0 τ = some (r', τ') ∧ lw_R σ' τ' ∧ r = r' := by
  obtain ⟨r, s, r', t, e, e', hv, hs, ht⟩ := z2_all (v_seed h.2.2 a0) (s_X6_seed a0 σ h.1) (s_X7_seed a0 τ h.2.1.1)
  exact ⟨r, s, r', t, e, e', ⟨hs, h.2.1.hi ht.1 ht.2, hv.2⟩, hv.1⟩
theorem sv_hours {σ τ : zg_S} (h : lw_R σ τ) (a0 : Int32) : ∃ (r : Int32) (σ' : zg_S) (r' : Int32) (τ' : zg_S), f_X6_hours a0 σ = some (r, σ') ∧ f_X7_hours a0 τ = some (r', τ') ∧ lw_R σ' τ' ∧ r = r' := by
  obtain ⟨r, s, r', t, e, e', hv, hs, ht⟩ := z2_all (v_hours h.2.2 a0) (s_X6_hours a0 σ h.1) (s_X7_hours a0 τ h.2.1.1 h.2.1.2.1)
  exact ⟨r, s, r', t, e, e', ⟨hs, h.2.1.hi ht.1 ht.2, hv.2⟩, hv.1⟩
theorem sv_book {σ τ : zg_S} (h : lw_R σ τ) (a0 : Int32) : ∃ (r : Int32) (σ' : zg_S) (r' : Int32) (τ' : zg_S), f_X6_book a0 σ = some (r, σ') ∧ f_X7_book a0 τ = some (r', τ') ∧ lw_R σ' τ' ∧ r = r' := by
  obtain ⟨r, s, r', t, e, e', hv, hs, ht⟩ := z2_all (v_book h.2.2 a0) (s_X6_book a0 σ h.1) (s_X7_book a0 τ h.2.1.1)
  exact ⟨r, s, r', t, e, e', ⟨by rw [← hs]; exact h.1, by rw [← ht]; exact h.2.1, hv.2⟩, hv.1⟩
theorem sv_behind {σ τ : zg_S} (h : lw_R σ τ) (a0 a1 : Int32) : ∃ (r : Int32) (σ' : zg_S) (r' : Int32) (τ' : zg_S), f_X6_behind a0 a1 σ = some (r, σ') ∧ f_X7_behind a0 a1 τ = some (r', τ') ∧ lw_R σ' τ' ∧ r = r' := by
  obtain ⟨r, s, r', t, e, e', hv, hs, ht⟩ := z2_all (v_behind h.2.2 a0 a1) (s_X6_behind a0 a1 σ h.1) (m_behind a0 a1 τ h.2.1)
  exact ⟨r, s, r', t, e, e', ⟨hs, ht, hv.2⟩, hv.1⟩
theorem sv_goods {σ τ : zg_S} (h : lw_R σ τ) (a0 a1 : Int32) : ∃ (r : Int32) (σ' : zg_S) (r' : Int32) (τ' : zg_S), f_X6_goods a0 a1 σ = some (r, σ') ∧ f_X7_goods a0 a1 τ = some (r', τ') ∧ lw_R σ' τ' ∧ r = r' := by
  obtain ⟨r, s, r', t, e, e', hv, hs, ht⟩ := z2_all (v_goods h.2.2 a0 a1) (s_X6_goods a0 a1 σ h.1) (m_goods a0 a1 τ h.2.1)
  exact ⟨r, s, r', t, e, e', ⟨hs, ht, hv.2⟩, hv.1⟩
theorem sv_best {σ τ : zg_S} (h : lw_R σ τ) (a0 a1 : Int32) : ∃ (r : Int32) (σ' : zg_S) (r' : Int32) (τ' : zg_S), f_X6_best a0 a1 σ = some (r, σ') ∧ f_X7_best a0 a1 τ = some (r', τ') ∧ lw_R σ' τ' ∧ r = r' := by
  obtain ⟨r, s, r', t, e, e', hv, hs, ht⟩ := z2_all (v_best h.2.2 a0 a1) (s_X6_best a0 a1 σ h.1) (m_best a0 a1 τ h.2.1)
  exact ⟨r, s, r', t, e, e', ⟨hs, ht, hv.2⟩, hv.1⟩
theorem sv_wider {σ τ : zg_S} (h : lw_R σ τ) (a0 a1 : Int32) : ∃ (r : Int32) (σ' : zg_S) (r' : Int32) (τ' : zg_S), f_X6_wider a0 a1 σ = some (r, σ') ∧ f_X7_wider a0 a1 τ = some (r', τ') ∧ lw_R σ' τ' ∧ r = r' := by
  obtain ⟨r, s, r', t, e, e', hv, hs, ht⟩ := z2_all (v_wider h.2.2 a0 a1) (s_X6_wider a0 a1 σ h.1) (m_wider a0 a1 τ h.2.1)
  exact ⟨r, s, r', t, e, e', ⟨hs, ht, hv.2⟩, hv.1⟩
theorem sv_shaded {σ τ : zg_S} (h : lw_R σ τ) (a0 a1 : Int32) : ∃ (r : Int32) (σ' : zg_S) (r' : Int32) (τ' : zg_S), f_X6_shaded a0 a1 σ = some (r, σ') ∧ f_X7_shaded a0 a1 τ = some (r', τ') ∧ lw_R σ' τ' ∧ r = r' := by
  obtain ⟨r, s, r', t, e, e', hv, hs, ht⟩ := z2_all (v_shaded h.2.2 a0 a1) (s_X6_shaded a0 a1 σ h.1) (m_shaded a0 a1 τ h.2.1)
  exact ⟨r, s, r', t, e, e', ⟨hs, ht, hv.2⟩, hv.1⟩
theorem sv_without {σ τ : zg_S} (h : lw_R σ τ) (a0 a1 : Int32) : ∃ (r : Int32) (σ' : zg_S) (r' : Int32) (τ' : zg_S), f_X6_without a0 a1 σ = some (r, σ') ∧ f_X7_without a0 a1 τ = some (r', τ') ∧ lw_R σ' τ' ∧ r = r' := by
  obtain ⟨r, s, r', t, e, e', hv, hs, ht⟩ := z2_all (v_without h.2.2 a0 a1) (s_X6_without a0 a1 σ h.1) (m_without a0 a1 τ h.2.1)
  exact ⟨r, s, r', t, e, e', ⟨hs, ht, hv.2⟩, hv.1⟩
theorem sv_whose {σ τ : zg_S} (h : lw_R σ τ) (a0 a1 a2 : Int32) : ∃ (r : Int32) (σ' : zg_S) (r' : Int32) (τ' : zg_S), f_X6_whose a0 a1 a2 σ = some (r, σ') ∧ f_X7_whose a0 a1 a2 τ = some (r', τ') ∧ lw_R σ' τ' ∧ True := by
  obtain ⟨r, s, r', t, e, e', hv, hs, ht⟩ := z2_all (v_whose h.2.2 h.1 h.2.1 a0 a1 a2) (s_X6_whose a0 a1 a2 σ h.1) (m_whose a0 a1 a2 τ h.2.1)
  exact ⟨r, s, r', t, e, e', ⟨hs, ht, hv⟩, trivial⟩
theorem sv_fee {σ τ : zg_S} (h : lw_R σ τ) : ∃ (r : Int32) (σ' : zg_S) (r' : Int32) (τ' : zg_S), f_X6_fee σ = some (r, σ') ∧ f_X7_fee τ = some (r', τ') ∧ lw_R σ' τ' ∧ r = r' := by
  obtain ⟨r, s, r', t, e, e', hv, hs, ht⟩ := z2_all (v_fee h.2.2) (s_X6_fee σ h.1) (s_X7_fee τ h.2.1.1 h.2.1.2.1)
  exact ⟨r, s, r', t, e, e', ⟨hs, h.2.1.hi ht.1 ht.2, hv.2⟩, hv.1⟩
theorem sv_fine {σ τ : zg_S} (h : lw_R σ τ) (a0 : Int32) : ∃ (r : Int32) (σ' : zg_S) (r' : Int32) (τ' : zg_S), f_X6_fine a0 σ = some (r, σ') ∧ f_X7_fine a0 τ = some (r', τ') ∧ lw_R σ' τ' ∧ r = r' := by
  obtain ⟨r, s, r', t, e, e', hv, hs, ht⟩ := z2_all (v_fine h.2.2 a0) (s_X6_fine a0 σ h.1) (s_X7_fine a0 τ h.2.1.1 h.2.1.2.1)
  exact ⟨r, s, r', t, e, e', ⟨hs, h.2.1.hi ht.1 ht.2, hv.2⟩, hv.1⟩
theorem sv_feed {σ τ : zg_S} (h : lw_R σ τ) (a0 a1 a2 : Int32) : ∃ (r : Int32) (σ' : zg_S) (r' : Int32) (τ' : zg_S), f_X6_feed a0 a1 a2 σ = some (r, σ') ∧ f_X7_feed a0 a1 a2 τ = some (r', τ') ∧ lw_R σ' τ' ∧ r = r' := by
  obtain ⟨r, s, r', t, e, e', hv, hs, ht⟩ := z2_all (v_feed h.2.2 (h.2.1.1 0 14) a0 a1 a2) (s_X6_feed a0 a1 a2 σ h.1) (s_X7_feed a0 a1 a2 τ h.2.1.1)
  exact ⟨r, s, r', t, e, e', ⟨hs, h.2.1.hi ht.1 ht.2, hv.2⟩, hv.1⟩
theorem sv_trim {σ τ : zg_S} (h : lw_R σ τ) (a0 : Int32) : ∃ (r : Int32) (σ' : zg_S) (r' : Int32) (τ' : zg_S), f_X6_trim a0 σ = some (r, σ') ∧ f_X7_trim a0 τ = some (r', τ') ∧ lw_R σ' τ' ∧ r = r' := by
  obtain ⟨r, s, r', t, e, e', hv, hs, ht⟩ := z2_all (v_trim h.2.2 a0) (s_X6_trim a0 σ h.1) (s_X7_trim a0 τ h.2.1.1)
  exact ⟨r, s, r', t, e, e', ⟨hs, h.2.1.hi ht.1 ht.2, hv.2⟩, hv.1⟩
theorem sv_text {σ τ : zg_S} (h : lw_R σ τ) : ∃ (r : Int32) (σ' : zg_S) (r' : Int32) (τ' : zg_S), f_X6_text σ = some (r, σ') ∧ f_X7_text τ = some (r', τ') ∧ lw_R σ' τ' ∧ r = r' := by
  obtain ⟨r, s, r', t, e, e', hv, hs, ht⟩ := z2_all (v_text h.2.2 h.2.1) (s_X6_text σ h.1) (m_text τ h.2.1)
  exact ⟨r, s, r', t, e, e', ⟨hs, ht, hv.2⟩, hv.1⟩
theorem sv_textTold {σ τ : zg_S} (h : lw_R σ τ) (a0 a1 : Int32) : ∃ (r : Int32) (σ' : zg_S) (r' : Int32) (τ' : zg_S), f_X6_textTold a0 a1 σ = some (r, σ') ∧ f_X7_textTold a0 a1 τ = some (r', τ') ∧ lw_R σ' τ' ∧ r = r' := by
  obtain ⟨r, s, r', t, e, e', hv, hs, ht⟩ := z2_all (v_textTold h.2.2 a0 a1) (s_X6_textTold a0 a1 σ h.1) (s_X7_textTold a0 a1 τ h.2.1.1)
  exact ⟨r, s, r', t, e, e', ⟨by rw [← hs]; exact h.1, by rw [← ht]; exact h.2.1, hv.2⟩, hv.1⟩
theorem sv_why {σ τ : zg_S} (h : lw_R σ τ) (a0 : Int32) : ∃ (r : Int32) (σ' : zg_S) (r' : Int32) (τ' : zg_S), f_X6_why a0 σ = some (r, σ') ∧ f_X7_why a0 τ = some (r', τ') ∧ lw_R σ' τ' ∧ r = r' := by
  obtain ⟨r, s, r', t, e, e', hv, hs, ht⟩ := z2_all (v_why h.2.2 a0) (s_X6_why a0 σ h.1) (s_X7_why a0 τ h.2.1.1)
  exact ⟨r, s, r', t, e, e', ⟨by rw [← hs]; exact h.1, by rw [← ht]; exact h.2.1, hv.2⟩, hv.1⟩
theorem sv_sheet {σ τ : zg_S} (h : lw_R σ τ) (a0 a1 a2 : Int32) : ∃ (r : Int32) (σ' : zg_S) (r' : Int32) (τ' : zg_S), f_X6_sheet a0 a1 a2 σ = some (r, σ') ∧ f_X7_sheet a0 a1 a2 τ = some (r', τ') ∧ lw_R σ' τ' ∧ r = r' := by
  obtain ⟨r, s, r', t, e, e', hv, hs, ht⟩ := z2_all (v_sheet h.2.2 a0 a1 a2) (s_X6_sheet a0 a1 a2 σ h.1) (s_X7_sheet a0 a1 a2 τ h.2.1.1)
  exact ⟨r, s, r', t, e, e', ⟨hs, h.2.1.hi ht.1 ht.2, hv.2⟩, hv.1⟩
theorem sv_mark {σ τ : zg_S} (h : lw_R σ τ) (a0 a1 a2 : Int32) : ∃ (r : Int32) (σ' : zg_S) (r' : Int32) (τ' : zg_S), f_X6_mark a0 a1 a2 σ = some (r, σ') ∧ f_X7_mark a0 a1 a2 τ = some (r', τ') ∧ lw_R σ' τ' ∧ r = r' := by
  obtain ⟨r, s, r', t, e, e', hv, hs, ht⟩ := z2_all (v_mark h.2.2 h.2.1.1 a0 a1 a2) (s_X6_mark a0 a1 a2 σ h.1) (s_X7_mark a0 a1 a2 τ h.2.1.1)
  exact ⟨r, s, r', t, e, e', ⟨hs, h.2.1.hi ht.1 ht.2, hv.2⟩, hv.1⟩
theorem sv_pour {σ τ : zg_S} (h : lw_R σ τ) (a0 : Int32) : ∃ (r : Int32) (σ' : zg_S) (r' : Int32) (τ' : zg_S), f_X6_pour a0 σ = some (r, σ') ∧ f_X7_pour a0 τ = some (r', τ') ∧ lw_R σ' τ' ∧ r = r' := by
  obtain ⟨r, s, r', t, e, e', hv, hs, ht⟩ := z2_all (v_pour h.2.2 h.2.1.1 a0) (s_X6_pour a0 σ h.1) (s_X7_pour a0 τ h.2.1.1)
  exact ⟨r, s, r', t, e, e', ⟨hs, h.2.1.hi ht.1 ht.2, hv.2⟩, hv.1⟩
theorem sv_reads {σ τ : zg_S} (h : lw_R σ τ) (a0 : Int32) : ∃ (r : Int32) (σ' : zg_S) (r' : Int32) (τ' : zg_S), f_X6_reads a0 σ = some (r, σ') ∧ f_X7_reads a0 τ = some (r', τ') ∧ lw_R σ' τ' ∧ r = r' := by
  obtain ⟨r, s, r', t, e, e', hv, hs, ht⟩ := z2_all (v_reads h.2.2 h.2.1.1 a0) (s_X6_reads a0 σ h.1) (s_X7_reads a0 τ h.2.1.1 h.2.1.2.1)
  exact ⟨r, s, r', t, e, e', ⟨hs, h.2.1.hi ht.1 ht.2, hv.2⟩, hv.1⟩
theorem sv_copy {σ τ : zg_S} (h : lw_R σ τ) (a0 a1 a2 a3 a4 : Int32) : ∃ (r : Int32) (σ' : zg_S) (r' : Int32) (τ' : zg_S), f_X6_copy a0 a1 a2 a3 a4 σ = some (r, σ') ∧ f_X7_copy a0 a1 a2 a3 a4 τ = some (r', τ') ∧ lw_R σ' τ' ∧ r = r' := by
  obtain ⟨r, s, r', t, e, e', hv, hs, ht⟩ := z2_all (v_copy h.2.2 h.2.1.1 a0 a1 a2 a3 a4) (s_X6_copy a0 a1 a2 a3 a4 σ h.1) (m_copy a0 a1 a2 a3 a4 τ h.2.1)
  exact ⟨r, s, r', t, e, e', ⟨hs, ht, hv.2⟩, hv.1⟩
theorem sv_lay {σ τ : zg_S} (h : lw_R σ τ) (a0 a1 a2 : Int32) : ∃ (r : Int32) (σ' : zg_S) (r' : Int32) (τ' : zg_S), f_X6_lay a0 a1 a2 σ = some (r, σ') ∧ f_X7_lay a0 a1 a2 τ = some (r', τ') ∧ lw_R σ' τ' ∧ r = r' := by
  obtain ⟨r, s, r', t, e, e', hv, hs, ht⟩ := z2_all (v_lay h.2.2 a0 a1 a2) (s_X6_lay a0 a1 a2 σ h.1) (m_lay a0 a1 a2 τ h.2.1)
  exact ⟨r, s, r', t, e, e', ⟨hs, ht, hv.2⟩, hv.1⟩
theorem sv_ask {σ τ : zg_S} (h : lw_R σ τ) (a0 a1 : Int32) : ∃ (r : Int32) (σ' : zg_S) (r' : Int32) (τ' : zg_S), f_X6_ask a0 a1 σ = some (r, σ') ∧ f_X7_ask a0 a1 τ = some (r', τ') ∧ lw_R σ' τ' ∧ r = r' := by
  obtain ⟨r, s, r', t, e, e', hv, hs, ht⟩ := z2_all (v_ask h.2.2 a0 a1) (s_X6_ask a0 a1 σ h.1) (s_X7_ask a0 a1 τ h.2.1.1)
  exact ⟨r, s, r', t, e, e', ⟨by rw [← hs]; exact h.1, by rw [← ht]; exact h.2.1, hv.2⟩, hv.1⟩
theorem sv_item {σ τ : zg_S} (h : lw_R σ τ) (a0 a1 : Int32) : ∃ (r : Int32) (σ' : zg_S) (r' : Int32) (τ' : zg_S), f_X6_item a0 a1 σ = some (r, σ') ∧ f_X7_item a0 a1 τ = some (r', τ') ∧ lw_R σ' τ' ∧ r = r' := by
  obtain ⟨r, s, r', t, e, e', hv, hs, ht⟩ := z2_all (v_item h.2.2 h.2.1.1 a0 a1) (s_X6_item a0 a1 σ h.1) (s_X7_item a0 a1 τ h.2.1.1)
  exact ⟨r, s, r', t, e, e', ⟨by rw [← hs]; exact h.1, by rw [← ht]; exact h.2.1, hv.2⟩, hv.1⟩
theorem sv_rest {σ τ : zg_S} (h : lw_R σ τ) (a0 a1 : Int32) : ∃ (r : Int32) (σ' : zg_S) (r' : Int32) (τ' : zg_S), f_X6_rest a0 a1 σ = some (r, σ') ∧ f_X7_rest a0 a1 τ = some (r', τ') ∧ lw_R σ' τ' ∧ r = r' := by
  obtain ⟨r, s, r', t, e, e', hv, hs, ht⟩ := z2_all (v_rest h.2.2 a0 a1) (s_X6_rest a0 a1 σ h.1) (s_X7_rest a0 a1 τ h.2.1.1)
  exact ⟨r, s, r', t, e, e', ⟨by rw [← hs]; exact h.1, by rw [← ht]; exact h.2.1, hv.2⟩, hv.1⟩
theorem sv_tell {σ τ : zg_S} (h : lw_R σ τ) (a0 : Int32) : ∃ (r : Int32) (σ' : zg_S) (r' : Int32) (τ' : zg_S), f_X6_tell a0 σ = some (r, σ') ∧ f_X7_tell a0 τ = some (r', τ') ∧ lw_R σ' τ' ∧ r = r' := by
  obtain ⟨r, s, r', t, e, e', hv, hs, ht⟩ := z2_all (v_tell h.2.2 h.2.1.1 a0) (s_X6_tell a0 σ h.1) (s_X7_tell a0 τ h.2.1.1)
  exact ⟨r, s, r', t, e, e', ⟨hs, h.2.1.hi ht.1 ht.2, hv.2⟩, hv.1⟩
theorem sv_check {σ τ : zg_S} (h : lw_R σ τ) (a0 : Int32) : ∃ (r : Int32) (σ' : zg_S) (r' : Int32) (τ' : zg_S), f_X6_check a0 σ = some (r, σ') ∧ f_X7_check a0 τ = some (r', τ') ∧ lw_R σ' τ' ∧ r = r' := by
  obtain ⟨r, s, r', t, e, e', hv, hs, ht⟩ := z2_all (v_check h.2.2 (h.2.1.1 0 29) a0) (s_X6_check a0 σ h.1) (m_check a0 τ h.2.1)
  exact ⟨r, s, r', t, e, e', ⟨hs, ht, hv.2⟩, hv.1⟩
theorem sv_keep {σ τ : zg_S} (h : lw_R σ τ) : ∃ (r : Int32) (σ' : zg_S) (r' : Int32) (τ' : zg_S), f_X6_keep σ = some (r, σ') ∧ f_X7_keep τ = some (r', τ') ∧ lw_R σ' τ' ∧ r = r' := by
  obtain ⟨r, s, r', t, e, e', hv, hs, ht⟩ := z2_all (v_keep h.2.2 h.2.1.1) (s_X6_keep σ h.1) (m_keep τ h.2.1)
  exact ⟨r, s, r', t, e, e', ⟨hs, ht, hv.2⟩, hv.1⟩
theorem sv_back {σ τ : zg_S} (h : lw_R σ τ) : ∃ (r : Int32) (σ' : zg_S) (r' : Int32) (τ' : zg_S), f_X6_back σ = some (r, σ') ∧ f_X7_back τ = some (r', τ') ∧ lw_R σ' τ' ∧ r = r' := by
  obtain ⟨r, s, r', t, e, e', hv, hs, ht⟩ := z2_all (v_back h.2.2 h.2.1.1) (s_X6_back σ h.1) (m_back τ h.2.1)
  exact ⟨r, s, r', t, e, e', ⟨hs, ht, hv.2⟩, hv.1⟩
theorem sv_count {σ τ : zg_S} (h : lw_R σ τ) (a0 : Int32) : ∃ (r : Int32) (σ' : zg_S) (r' : Int32) (τ' : zg_S), f_X6_count a0 σ = some (r, σ') ∧ f_X7_count a0 τ = some (r', τ') ∧ lw_R σ' τ' ∧ r = r' := by
  obtain ⟨r, s, r', t, e, e', hv, hs, ht⟩ := z2_all (v_count h.2.2 h.2.1.1 a0) (s_X6_count a0 σ h.1) (m_count a0 τ h.2.1)
  exact ⟨r, s, r', t, e, e', ⟨by rw [← hs]; exact h.1, ht, hv.2⟩, hv.1⟩
end
