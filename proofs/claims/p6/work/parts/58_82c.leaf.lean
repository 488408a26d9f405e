/-! a leaf on both sides -/
theorem z2_leaf {key c w v : Int32} {σ τ : zg_S} {P : Int32 → zg_S → Int32 → zg_S → Prop} (h : PR key σ τ) (hK : ¬ τ 0 17 = 0) (hr : SR key c w v) (hP : ∀ s t, PR key s t → ND τ t → P 1 s 1 t) : z2 (zbd (f_X5_addLeaf 8 c σ) (fun _ s => zbd (f_X1_advance s) (fun _ s => some (1, s)))) (zbd (f_X7_step w v τ) (fun _ t => zlet (zg_up t 0 24 ((t 0 24) + 1)) (fun t => zbd (f_X7_nextToken t) (fun _ t => some (1, t))))) P := by
  obtain ⟨⟨q1, q2, q3, q4, q5, q6, q7, q8, q9, q10⟩, hT, hTP, hS, hO, hL⟩ := h
  have e1 := zt_1
  have f14 : 0 ≤ (τ 0 14).toInt ∧ (τ 0 14).toInt ≤ 96 := q1 0 14
  have e82 := hS.2.1
  have b0 := q2.1
  have hlt := q5.resolve_left hK
  refine z2_cL (c_addLeaf c σ (by rw [e82]; exact q2.1) (by rw [e82]; omega)) (fun r s hs => ?_)
  refine z2_cR (m_step w v τ q1 q2) (fun r' t ht => ?_)
  obtain ⟨hc, c81⟩ := hs
  obtain ⟨it, p1, p2, p3, p4, p5, p6⟩ := ht
  have ea := zTe (zTadd (zTs (τ 0 22)) (zTl zt_1) (by omega) (by omega))
  have hS' : SP key s t := hS.add q2 (by omega) hc p2 p3 p4 p5 p6 hr
  refine z2_lR (fun u q => ?_)
  have iu : IMc u := by rw [q]; exact IMc.up it (zTs _) trivial
  have ru : ∀ p, p ≠ 0 → u p = t p := fun p hp => by rw [q]; exact zg_row_ne hp
  have k' : ∀ j, j ≠ 22 → j ≠ 24 → u 0 j = τ 0 j := fun j h1 h2 => by rw [q]; exact (zkeepn h2).trans (p2 j h1)
  have u22e : u 0 22 = t 0 22 := by rw [q]; exact zkeepf rfl
  have u22 : (u 0 22).toInt = (τ 0 22).toInt + 1 := by rw [u22e, p3]; exact ea
  have u24 : u 0 24 = τ 0 24 + 1 := by rw [q]; refine zgot.trans ?_; rw [p2 24 (by decide)]
  have cw := hc.1
  have u13 : u 13 = τ 13 := (ru 13 (by decide)).trans (p1 13 (by decide) (by decide))
  have k23 : u 0 23 = τ 0 23 := k' 23 (by decide) (by decide)
  have hTu : TK s u := by
    unfold TK tok
    rw [cw 7 4 (by decide) (by decide), cw 7 3 (by decide) (by decide), cw 7 5 (by decide) (by decide), k' 15 (by decide) (by decide), k' 16 (by decide) (by decide), k' 17 (by decide) (by decide), k' 18 (by decide) (by decide), k' 19 (by decide) (by decide), k' 14 (by decide) (by decide), u13]
    exact hT
  have hTPu : TP s u := by
    unfold TP
    rw [cw 7 2 (by decide) (by decide), k' 14 (by decide) (by decide), u13]
    exact ⟨hTP.1, fun i hi => (cw 6 i (by decide) (by decide)).trans (hTP.2 i hi)⟩
  have hOu : OP s u := by
    unfold OP
    rw [cw 7 6 (by decide) (by decide), cw 7 7 (by decide) (by decide), k' 20 (by decide) (by decide), k' 21 (by decide) (by decide)]
    exact hO
  refine z2_adv (key := key) iu ⟨by omega, by omega, by rw [k23]; exact q2.2.2.1, by rw [k23]; exact q2.2.2.2⟩ hTu.2.2.2.2.2.1 (by rw [k' 16 (by decide) (by decide)]; omega) (by rw [k' 20 (by decide) (by decide), k' 21 (by decide) (by decide)]; exact ⟨q7, q8, q9, q10⟩) hTPu hTu.2.2.1 hTu.tg (hS'.k (fun _ => rfl) (fun _ => rfl) u22e (k23.trans (p2 23 (by decide)).symm) (ru 1 (by decide))) hOu (by rw [c81, u24, hL]) (fun r2 s2 r2' t2 hR kt hB => z2_some (hP s2 t2 hR ?_))
  rw [k' 16 (by decide) (by decide)] at hB
  have g22 := congrArg Int32.toInt (kt.2 22 (by decide))
  exact ⟨by omega, by omega, by omega, (kt.2 20 (by decide)).trans (k' 20 (by decide) (by decide)), (kt.2 21 (by decide)).trans (k' 21 (by decide) (by decide))⟩
/-! numbers -/
theorem nv_b {n : Int} {T : Nat → Int32} {b : Nat} : ∀ k, k ≤ 4 → (∀ i, b ≤ i → i < b + k → qD n T i) → 0 ≤ (nv T b k).toInt ∧ (nv T b k).toInt + 1 ≤ 10 ^ k := by
  intro k
  induction k with
  | zero =>
    intro _ _
    show 0 ≤ (0 : Int32).toInt ∧ (0 : Int32).toInt + 1 ≤ 10 ^ 0
    decide
  | succ k ih =>
    intro hk h
    obtain ⟨a1, a2⟩ := ih (by omega) (fun i x y => h i x (by omega))
    obtain ⟨_, d1, d2⟩ := h (b + k) (by omega) (by omega)
    have hp : (10 : Int) ^ k ≤ 1000 := by
      have : k = 0 ∨ k = 1 ∨ k = 2 ∨ k = 3 := by omega
      rcases this with rfl | rfl | rfl | rfl <;> decide
    have hp1 : (10 : Int) ^ (k + 1) = 10 ^ k * 10 := Int.pow_succ _ _
    have em := zTmul (zTl (show (10 : Int32).toInt = 10 by decide)) (zTs (nv T b k)) (by omega) (by omega)
    have e := zTe (zTsub (zTadd em (zTs (T (b + k))) (by omega) (by omega)) (zTl zt_48) (by omega) (by omega))
    show 0 ≤ (10 * nv T b k + T (b + k) - 48).toInt ∧ (10 * nv T b k + T (b + k) - 48).toInt + 1 ≤ 10 ^ (k + 1)
    rw [e, hp1]
    omega
theorem z2_number {key : Int32} {σ τ : zg_S} {o' : Option (Int32 × zg_S)} {P : Int32 → zg_S → Int32 → zg_S → Prop} (h : PR key σ τ) (hK : τ 0 17 = 2) (hk : z2 (zbd (f_X5_addLeaf 8 (τ 0 18) σ) (fun _ s => zbd (f_X1_advance s) (fun _ s => some (1, s)))) o' P) : z2 (f_X1_readNumber σ) o' P := by
  obtain ⟨⟨q1, q2, q3, q4, q5, q6, q7, q8, q9, q10⟩, hT, hTP, hS, hO, hL⟩ := h
  have e1 := zt_1
  have f14 : 0 ≤ (τ 0 14).toInt ∧ (τ 0 14).toInt ≤ 96 := q1 0 14
  obtain ⟨t1, t2, t3, t4, t5, t6, t7, _, tN, _⟩ := hT
  obtain ⟨d1, d2, d3⟩ := tN hK
  have nB := ztn t4
  have key' : ∀ (m : Nat) (x : Int32) (j k : Nat), j + k = ((τ 0 16).toInt - (τ 0 15).toInt).toNat → k < m → x.toInt = (τ 0 15).toInt + j → L_X1_readNumber_7 m (nv (τ 13) (τ 0 15).toNatClampNeg j) x σ = B_X1_readNumber_44 (τ 0 18) σ := by
    intro m
    induction m with
    | zero => intro x j k _ hm; omega
    | succ m ih =>
      intro x j k hj hm hx
      show B_X1_readNumber_7 (L_X1_readNumber_7 m) (nv (τ 13) (τ 0 15).toNatClampNeg j) x σ = _
      unfold B_X1_readNumber_7
      rw [t3, hTP.1]
      cases k with
      | zero =>
        rw [if_pos (Int32.le_iff_toInt_le.mpr (by omega)), d3, ← hj]
        rfl
      | succ k =>
        rw [if_neg (fun z => by have := zle z; omega), if_neg (fun z => by have := zle z; omega), if_pos (zin_mk (by omega) (by omega))]
        have ex := zTe (zTadd (zTs x) (zTl zt_1) (by omega) (by omega))
        have nx := ztn (i := x) (by omega)
        have ev : ((nv (τ 13) (τ 0 15).toNatClampNeg j * 10) + σ 6 x.toNatClampNeg) - 48 = nv (τ 13) (τ 0 15).toNatClampNeg (j + 1) := by
          show _ = 10 * nv (τ 13) (τ 0 15).toNatClampNeg j + τ 13 ((τ 0 15).toNatClampNeg + j) - 48
          rw [hTP.2 _ (by omega), Int32.mul_comm, show (τ 0 15).toNatClampNeg + j = x.toNatClampNeg by omega]
        show L_X1_readNumber_7 m (((nv (τ 13) (τ 0 15).toNatClampNeg j * 10) + σ 6 x.toNatClampNeg) - 48) (x + 1) σ = _
        rw [ev]
        exact ih (x + 1) (j + 1) k (by omega) (by omega) (by rw [ex]; omega)
  unfold f_X1_readNumber
  rw [t1]
  have e := key' zfu (τ 0 15) 0 ((τ 0 16).toInt - (τ 0 15).toInt).toNat (by omega) (by unfold zfu; omega) (by omega)
  rw [show (0 : Int32) = nv (τ 13) (τ 0 15).toNatClampNeg 0 from rfl, e]
  exact hk
theorem number_SR {key : Int32} {σ τ : zg_S} (h : PR key σ τ) (hK : τ 0 17 = 2) : SR key (τ 0 18) 0 (τ 0 18) := by
  obtain ⟨_, hT, _⟩ := h
  obtain ⟨t1, t2, t3, t4, t5, t6, t7, _, tN, _⟩ := hT
  obtain ⟨d1, d2, d3⟩ := tN hK
  have nB := ztn t4
  refine Or.inl ⟨rfl, rfl, ?_⟩
  rw [d3]
  exact (nv_b (n := (τ 0 14).toInt) (T := τ 13) _ (by omega) (fun i x y => d1 i (by omega) (by omega))).1
/-! names -/
def ixN (key c : Int32) : Int32 := if key = 0 then (if c = 104 then 0 else if c = 103 then 1 else if c = 112 then 2 else -1) else if key = 1 then (if c = 99 then 0 else if c = 116 then 1 else -1) else (if c = 103 then 0 else if c = 115 then 1 else -1)
def KY (key : Int32) : Prop := key = 0 ∨ key = 1 ∨ key = 2
theorem ch_e {c : Int32} (h1 : 97 ≤ c.toInt) (h2 : c.toInt ≤ 122) : (Int32.toUInt32 c % 65536).toInt32 = c ∧ (Int32.toInt8 c).toInt32 = c := by
  have k : ∀ n : Int32, c.toInt = n.toInt → c = n := fun n h => Int32.toInt_inj.mp h
  have hc : c.toInt = 97 ∨ c.toInt = 98 ∨ c.toInt = 99 ∨ c.toInt = 100 ∨ c.toInt = 101 ∨ c.toInt = 102 ∨ c.toInt = 103 ∨ c.toInt = 104 ∨ c.toInt = 105 ∨ c.toInt = 106 ∨ c.toInt = 107 ∨ c.toInt = 108 ∨ c.toInt = 109 ∨ c.toInt = 110 ∨ c.toInt = 111 ∨ c.toInt = 112 ∨ c.toInt = 113 ∨ c.toInt = 114 ∨ c.toInt = 115 ∨ c.toInt = 116 ∨ c.toInt = 117 ∨ c.toInt = 118 ∨ c.toInt = 119 ∨ c.toInt = 120 ∨ c.toInt = 121 ∨ c.toInt = 122 := by omega
  rcases hc with hc | hc | hc | hc | hc | hc | hc | hc | hc | hc | hc | hc | hc | hc | hc | hc | hc | hc | hc | hc | hc | hc | hc | hc | hc | hc
  · rw [k 97 (hc.trans (by decide))]; decide
  · rw [k 98 (hc.trans (by decide))]; decide
  · rw [k 99 (hc.trans (by decide))]; decide
  · rw [k 100 (hc.trans (by decide))]; decide
  · rw [k 101 (hc.trans (by decide))]; decide
  · rw [k 102 (hc.trans (by decide))]; decide
  · rw [k 103 (hc.trans (by decide))]; decide
  · rw [k 104 (hc.trans (by decide))]; decide
  · rw [k 105 (hc.trans (by decide))]; decide
  · rw [k 106 (hc.trans (by decide))]; decide
  · rw [k 107 (hc.trans (by decide))]; decide
  · rw [k 108 (hc.trans (by decide))]; decide
  · rw [k 109 (hc.trans (by decide))]; decide
  · rw [k 110 (hc.trans (by decide))]; decide
  · rw [k 111 (hc.trans (by decide))]; decide
  · rw [k 112 (hc.trans (by decide))]; decide
  · rw [k 113 (hc.trans (by decide))]; decide
  · rw [k 114 (hc.trans (by decide))]; decide
  · rw [k 115 (hc.trans (by decide))]; decide
  · rw [k 116 (hc.trans (by decide))]; decide
  · rw [k 117 (hc.trans (by decide))]; decide
  · rw [k 118 (hc.trans (by decide))]; decide
  · rw [k 119 (hc.trans (by decide))]; decide
  · rw [k 120 (hc.trans (by decide))]; decide
  · rw [k 121 (hc.trans (by decide))]; decide
  · rw [k 122 (hc.trans (by decide))]; decide
theorem ixst (q : Nat) (a1 a2 a3 x4 x5 b : Int32) (m : Nat) (σ : zg_S) (h1 : ¬ a3 ≤ x5) (h2 : zin x5 (zz_len.getD q 0) = true) (hb : (zz_byt.getD q []).getD x5.toNatClampNeg 0 = b) : L_J1_indexOfChar_4cfef_7 q a1 a2 a3 (m + 1) x4 x5 σ = if b = x4 then some (x5, σ) else L_J1_indexOfChar_4cfef_7 q a1 a2 a3 m x4 (x5 + 1) σ := by
  show B_J1_indexOfChar_4cfef_7 q a1 a2 a3 (L_J1_indexOfChar_4cfef_7 q a1 a2 a3 m) x4 x5 σ = _
  unfold B_J1_indexOfChar_4cfef_7
  rw [if_neg h1, if_pos h2, hb]
theorem ixen (q : Nat) (a1 a2 a3 x4 x5 : Int32) (m : Nat) (σ : zg_S) (h1 : a3 ≤ x5) : L_J1_indexOfChar_4cfef_7 q a1 a2 a3 (m + 1) x4 x5 σ = some (-1, σ) := by
  show B_J1_indexOfChar_4cfef_7 q a1 a2 a3 (L_J1_indexOfChar_4cfef_7 q a1 a2 a3 m) x4 x5 σ = _
  unfold B_J1_indexOfChar_4cfef_7
  rw [if_pos h1]
theorem ixL {key c : Int32} (a1 : Int32) (σ : zg_S) (hk : KY key) : L_J1_indexOfChar_4cfef_7 (zg_nm key) a1 0 (nI (zz_len.getD (zg_nm key) 0)) zfu c 0 σ = some (ixN key c, σ) := by
  obtain ⟨m, hm⟩ : ∃ m, zfu = m + 1 + 1 + 1 + 1 := ⟨99996, by unfold zfu; rfl⟩
  have h10 : ¬ (1 : Int32) = 0 := by decide
  have h20 : ¬ (2 : Int32) = 0 := by decide
  have h21 : ¬ (2 : Int32) = 1 := by decide
  rw [hm]
  rcases hk with rfl | rfl | rfl
  · show L_J1_indexOfChar_4cfef_7 3 a1 0 3 (m + 1 + 1 + 1 + 1) c 0 σ = _
    unfold ixN
    rw [if_pos rfl, ixst 3 a1 0 3 c 0 104 _ σ (by decide) (by decide) (by decide)]
    by_cases c1 : c = 104
    · rw [if_pos c1, if_pos c1.symm]
    rw [if_neg c1, if_neg (fun z => c1 z.symm), show (0 : Int32) + 1 = 1 by decide, ixst 3 a1 0 3 c 1 103 _ σ (by decide) (by decide) (by decide)]
    by_cases c2 : c = 103
    · rw [if_pos c2, if_pos c2.symm]
    rw [if_neg c2, if_neg (fun z => c2 z.symm), show (1 : Int32) + 1 = 2 by decide, ixst 3 a1 0 3 c 2 112 _ σ (by decide) (by decide) (by decide)]
    by_cases c3 : c = 112
    · rw [if_pos c3, if_pos c3.symm]
    rw [if_neg c3, if_neg (fun z => c3 z.symm), ixen 3 a1 0 3 c _ _ σ (by decide)]
  · show L_J1_indexOfChar_4cfef_7 4 a1 0 2 (m + 1 + 1 + 1 + 1) c 0 σ = _
    unfold ixN
    rw [if_neg h10, if_pos rfl, ixst 4 a1 0 2 c 0 99 _ σ (by decide) (by decide) (by decide)]
    by_cases c1 : c = 99
    · rw [if_pos c1, if_pos c1.symm]
    rw [if_neg c1, if_neg (fun z => c1 z.symm), show (0 : Int32) + 1 = 1 by decide, ixst 4 a1 0 2 c 1 116 _ σ (by decide) (by decide) (by decide)]
    by_cases c2 : c = 116
    · rw [if_pos c2, if_pos c2.symm]
    rw [if_neg c2, if_neg (fun z => c2 z.symm), ixen 4 a1 0 2 c _ _ σ (by decide)]
  · show L_J1_indexOfChar_4cfef_7 5 a1 0 2 (m + 1 + 1 + 1 + 1) c 0 σ = _
    unfold ixN
    rw [if_neg h20, if_neg h21, ixst 5 a1 0 2 c 0 103 _ σ (by decide) (by decide) (by decide)]
    by_cases c1 : c = 103
    · rw [if_pos c1, if_pos c1.symm]
    rw [if_neg c1, if_neg (fun z => c1 z.symm), show (0 : Int32) + 1 = 1 by decide, ixst 5 a1 0 2 c 1 115 _ σ (by decide) (by decide) (by decide)]
    by_cases c2 : c = 115
    · rw [if_pos c2, if_pos c2.symm]
    rw [if_neg c2, if_neg (fun z => c2 z.symm), ixen 5 a1 0 2 c _ _ σ (by decide)]
theorem ix_e {key c : Int32} (σ : zg_S) (hk : KY key) (h1 : 97 ≤ c.toInt) (h2 : c.toInt ≤ 122) : f_J0_indexOf_0f7a4 (zg_nm key) ((Int32.toUInt32 c % 65536).toInt32) σ = some (ixN key c, σ) := by
  have e0 := zt_0
  obtain ⟨e1, e2⟩ := ch_e h1 h2
  have hq : zg_nm key < 6 := zg_nm_lt key
  have hl : (0 : Int32) < nI (zz_len.getD (zg_nm key) 0) := by rcases hk with rfl | rfl | rfl <;> decide
  have h255 : (255 : Int32).toInt = 255 := by decide
  rw [e1]
  have hz : zk (f_J0_indexOf_0f7a4 (zg_nm key) c σ) (fun r s => r = ixN key c ∧ σ = s) := by
    unfold f_J0_indexOf_0f7a4
    refine zk_call (P := fun r s => r = ixN key c ∧ σ = s) ?_ (fun r s hp => zk_some hp)
    unfold f_J0_indexOf_7cf53 f_J0_isLatin1_aae02
    refine zk_call (P := fun r s => r = 1 ∧ σ = s) ⟨1, σ, rfl, rfl, rfl⟩ (fun r s hp => ?_)
    obtain ⟨rfl, rfl⟩ := hp
    refine zk_ite (fun h => absurd h (by decide)) (fun _ => ?_)
    refine zk_call (P := fun r s => r = nI (zz_len.getD (zg_nm key) 0) ∧ σ = s) ⟨_, _, ej_len _ hq σ, rfl, rfl⟩ (fun r s hp => ?_)
    obtain ⟨rfl, rfl⟩ := hp
    refine zk_call (P := fun r s => r = ixN key c ∧ σ = s) ?_ (fun r s hp => zk_some hp)
    unfold f_J1_indexOf_4cfef
    refine zk_call (P := fun r s => r = 1 ∧ σ = s) ?_ (fun r1 s hp => ?_)
    · unfold f_J1_canEncode_9a6ad
      refine zk_ite (fun h => ?_) (fun _ => zk_ite (fun h => ?_) (fun _ => zk_some ⟨rfl, rfl⟩))
      · have := zlt h; omega
      · have := zlt h; omega
    · obtain ⟨rfl, rfl⟩ := hp
      refine zk_ite (fun h => absurd h (by decide)) (fun _ => ?_)
      refine zk_let (fun y ey => ?_)
      have ey' : y = nI (zz_len.getD (zg_nm key) 0) := by
        rw [ey]
        by_cases cc : nI (zz_len.getD (zg_nm key) 0) < nI (zz_len.getD (zg_nm key) 0)
        · rw [if_pos cc]
        · rw [if_neg cc]
      subst ey'
      rw [show (if (0 : Int32) < 0 then (0 : Int32) else 0) = 0 by decide]
      refine zk_ite (fun _ => ?_) (fun h => absurd hl h)
      refine zk_call (P := fun r s => r = ixN key c ∧ σ = s) ⟨_, _, ?_, rfl, rfl⟩ (fun r s hp => zk_some hp)
      unfold f_J1_indexOfChar_4cfef
      rw [e2]
      exact ixL c σ hk
  obtain ⟨r, s, e, rfl, rfl⟩ := hz
  exact e
