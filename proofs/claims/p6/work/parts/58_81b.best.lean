/-! best: the class -/
def WTh (d : Nat) (p k : Nat) : Prop := (p = 0 ∧ (k = 13 ∨ k = 14)) ∨ (81 + 12 * (d + 1) ≤ p ∧ p ≤ 152) ∨ (13 ≤ p ∧ p ≤ 52 ∧ p % 3 = 1)
theorem p3 (n c : Nat) : 3 * c * 3 ^ n = c * 3 ^ (n + 1) := by rw [Nat.pow_succ, Nat.mul_comm 3 c, Nat.mul_assoc, Nat.mul_comm 3]
theorem th_ok {g : Nat → Int32} (o : gOK g) (hC : gC g) (h9 : (g 2).toInt ≤ 9999) {a : Int32} {A : Nat} (ha : a.toInt = A) (hA : A ≤ 5) : ∀ (n d code : Nat) (x z : Int32) (s : zg_S) (fuel : Nat), d + n = A → n < fuel → x.toInt = d → z.toInt = code → code < 3 ^ d → EQB s (81 + 12 * d) (sLf g d code) → TXR s (81 + 12 * d) (sLf g d code) → bsF (fun c => sLf g A c 4) (code * 3 ^ n) (s 0 14) (s 0 13) → zk (G_th fuel 0 x a z s) (fun _ t => bsF (fun c => sLf g A c 4) ((code + 1) * 3 ^ n) (t 0 14) (t 0 13) ∧ wr (WTh d) s t) := by
  have e0 := zt_0
  have e1 := zt_1
  have e3 := zt_3
  have e5 := zt_5
  intro n
  induction n with
  | zero =>
    intro d code x z s fuel hd hf hx hz hcd hE hT hb
    obtain ⟨f, rfl⟩ : ∃ f, fuel = f + 1 := ⟨fuel - 1, by omega⟩
    show zk (f_X6_tryHaulings (G_th f) x a z s) _
    have en : x.toNatClampNeg = d := zTn (zTl hx) rfl
    have hdA : d = A := by omega
    subst hdA
    rw [Nat.pow_zero, Nat.mul_one] at hb ⊢
    unfold f_X6_tryHaulings
    refine zk_ite (fun h => by have := zlt h; omega) (fun _ => zk_ite (fun _ => ?_) (fun h => by have := znle h; omega))
    refine zk_in (zin_mk (by omega) (by omega)) ?_
    rw [en, show s (81 + 12 * d) 11 = sLf g d code 4 from hE.f 4 (by decide)]
    refine zk_ite (fun h => ?_) (fun h => ?_)
    · refine zk_ite (fun _ => ?_) (fun h' => by have := znle h'; omega)
      unfold B_X6_tryHaulings_41
      refine zk_let (fun s1 q1 => zk_let (fun s2 q2 => zk_some ⟨?_, fun p k hp => ?_⟩))
      · have k13 : s2 0 13 = sLf g d code 4 := by
          rw [q2]
          refine (zkeepn (by decide)).trans ?_
          rw [q1]
          exact zgot.trans (hE.f 4 (by decide))
        have k14 : s2 0 14 = z := by rw [q2]; exact zgot
        rw [k13, k14]
        exact bsF_take (V := fun c => sLf g d c 4) hb hz (zlt h)
      · unfold WTh at hp
        rw [q2, q1]
        by_cases e : p = 0
        · subst e
          exact (zkeepn (by omega)).trans (zkeepn (by omega))
        · exact congrFun ((zg_row_ne e).trans (zg_row_ne e)) k
    · have gl := znlt h
      refine zk_some ⟨bsF_skip hb (by omega) (fun z0 => ?_) (fun j h1 h2 => ?_), wr.rf⟩
      · obtain ⟨y1, y2, y3, _⟩ := sLf_ok o hC d code (by omega)
        rcases hb with ⟨_, w⟩ | ⟨c, c1, _⟩
        · have := y2.2.1
          rw [w] at gl
          have : (2147483647 : Int32).toInt = 2147483647 := by decide
          omega
        · omega
      · rw [show j = code by omega]
        exact gl
  | succ n ih =>
    intro d code x z s fuel hd hf hx hz hcd hE hT hb
    obtain ⟨f, rfl⟩ : ∃ f, fuel = f + 1 := ⟨fuel - 1, by omega⟩
    show zk (f_X6_tryHaulings (G_th f) x a z s) _
    have en : x.toNatClampNeg = d := zTn (zTl hx) rfl
    obtain ⟨y1, y2, y3, y4, y5⟩ := sLf_ok o hC d code (by omega)
    have c243 : code < 243 := Nat.lt_of_lt_of_le hcd (Nat.pow_le_pow_right (by decide) (show d ≤ 5 by omega))
    unfold f_X6_tryHaulings
    refine zk_ite (fun h => by have := zlt h; omega) (fun _ => zk_ite (fun _ => ?_) (fun h => by have := znle h; omega))
    refine zk_in (zin_mk (by omega) (by omega)) ?_
    rw [en, show s (81 + 12 * d) 11 = sLf g d code 4 from hE.f 4 (by decide)]
    refine zk_ite (fun h => ?_) (fun h => ?_)
    · refine zk_ite (fun h' => by have := zle h'; omega) (fun _ => zk_ite (fun h' => by have := zeq h'; omega) (fun _ => ?_))
      unfold L_X6_tryHaulings_59
      refine zl_NI (fun (q : Nat) (w : Int32) (t : zg_S) => q = 81 + 12 * d ∧ ∃ i : Nat, w.toInt = i ∧ i ≤ 3 ∧ EQB t (81 + 12 * d) (sLf g d code) ∧ TXR t (81 + 12 * d) (sLf g d code) ∧ bsF (fun c => sLf g A c 4) ((3 * code + i) * 3 ^ n) (t 0 14) (t 0 13) ∧ wr (WTh d) s t) (fun (_ : Nat) (w : Int32) (_ : zg_S) => (4 - w.toInt).toNat) ?_ zfu _ _ _ ⟨rfl, 0, e0, by omega, hE, hT, by rw [Nat.add_zero, p3]; exact hb, wr.rf⟩ (by unfold zfu; omega)
      intro rec q w t hI ih2
      obtain ⟨rfl, i, hi, hi3, tE, tT, tb, tw⟩ := hI
      unfold B_X6_tryHaulings_59
      refine zk_ite (fun h => ?_) (fun h => ?_)
      · have := zle h
        have : i = 3 := by omega
        subst this
        refine zk_some ⟨?_, tw⟩
        rw [← p3, show 3 * (code + 1) = 3 * code + 3 by omega]
        exact tb
      · have gi := znle h
        have x1 := zTadd (zTs x) (zTl zt_1) (by omega) (by omega)
        have ex1 : (x + 1).toNatClampNeg = d + 1 := zTn x1 (by omega)
        refine zk_in (zin_mkT x1 (by omega) (by omega)) ?_
        rw [ex1]
        refine zk_call (zk_w (c_takeOver (p := 81 + 12 * (d + 1)) tE tT y1.1.1 y1.2.2.1.2 (by omega) (by omega) (by omega)) (w_X0_takeOver (81 + 12 * (d + 1)) (81 + 12 * d) t)) (fun _ u hu => ?_)
        obtain ⟨⟨uE, uT⟩, uw⟩ := hu
        refine zk_call (zk_w (c_hour uE uT y1 (by omega) w) (w_X0_passHour (81 + 12 * (d + 1)) w u)) (fun _ v hv => ?_)
        obtain ⟨⟨vE, vT⟩, vw⟩ := hv
        have tv : wr (WTh d) t v := fun p k hp => (vw p k (fun z => hp (by unfold W_X0_passHour at z; unfold WTh; omega))).trans (uw p k (fun z => hp (by unfold W_X0_takeOver at z; unfold WTh; omega)))
        have tv0 : ∀ k, v 0 k = t 0 k := fun k => (vw 0 k (fun z => by unfold W_X0_passHour at z; omega)).trans (uw 0 k (fun z => by unfold W_X0_takeOver at z; omega))
        have dgw : dg (3 * code + i) = w := by
          unfold dg
          rcases (show i = 0 ∨ i = 1 ∨ i = 2 by omega) with rfl | rfl | rfl
          · rw [if_pos (by omega)]; exact Int32.toInt_inj.mp (by omega)
          · rw [if_neg (by omega), if_pos (by omega)]; exact Int32.toInt_inj.mp (by omega)
          · rw [if_neg (by omega), if_neg (by omega)]; exact Int32.toInt_inj.mp (by rw [hi]; decide)
        have st : sLf g (d + 1) (3 * code + i) = sHr (sLf g d code) (sTo (sLf g d code) w) := by
          show sHr (sLf g d ((3 * code + i) / 3)) (sTo (sLf g d ((3 * code + i) / 3)) (dg (3 * code + i))) = _
          rw [show (3 * code + i) / 3 = code by omega, dgw]
        have zc := zTadd (zTmul (zTs z) (zTl zt_3) (by omega) (by omega)) (zTs w) (by omega) (by omega)
        refine zk_call (ih (d + 1) (3 * code + i) (x + 1) ((z * 3) + w) v f (by omega) (by omega) (by rw [zTe x1]; omega) (by rw [zTe zc]; omega) (by rw [Nat.pow_succ]; omega) (by rw [st]; exact vE) (by rw [st]; exact vT) (by rw [tv0, tv0]; exact tb)) (fun _ b hb' => ?_)
        obtain ⟨b1, b2⟩ := hb'
        have tb' : wr (WTh d) t b := fun p k hp => (b2 p k (fun z => hp (by unfold WTh at z ⊢; omega))).trans (tv p k hp)
        have ew := zTe (zTadd (zTs w) (zTl zt_1) (by omega) (by omega))
        refine ih2 (81 + 12 * d) (w + 1) b ⟨rfl, i + 1, by rw [ew, hi]; rfl, by omega, ?_, ?_, b1, fun p k hp => (tb' p k hp).trans (tw p k hp)⟩ (by show (4 - (w + 1).toInt).toNat < (4 - w.toInt).toNat; rw [ew]; omega)
        · exact tE.wr (by have := y1.1.1; omega) (fun q k h1 h2 => tb' q k (fun z => by unfold WTh at z; omega))
        · exact tT.wr y1.2.2.1.2 (fun k => tb' _ k (fun z => by unfold WTh at z; omega)) (fun q k h1 h2 h3 => tb' q k (fun z => by unfold WTh at z; omega))
    · have gl := znlt h
      have pos : 0 < 3 ^ (n + 1) := Nat.pow_pos (by decide)
      refine zk_some ⟨bsF_skip hb (Nat.mul_le_mul_right _ (by omega)) (fun z0 => ?_) (fun j h1 h2 => ?_), wr.rf⟩
      · rcases hb with ⟨_, w⟩ | ⟨c, c1, _⟩
        · have := y2.2.1
          rw [w] at gl
          have : (2147483647 : Int32).toInt = 2147483647 := by decide
          omega
        · omega
      · have hq : j / 3 ^ (n + 1) = code := Nat.div_eq_of_lt_le h1 h2
        have := sLf_le o hC d (n + 1) j (by omega)
        rw [hq, hd] at this
        exact Int.le_trans gl this
