/-! mark, count -/
theorem sh16 (a : Int32) : (Int32.toInt16 a).toInt32 = ((a <<< (16 &&& 31)) >>> (16 &&& 31)) := by
  refine Int32.toBitVec_inj.mp ?_
  rw [Int32.toBitVec_shiftRight, Int32.toBitVec_shiftLeft, show ((16 : Int32) &&& 31).toBitVec.smod 32 = 16#32 by decide]
  refine BitVec.eq_of_getLsbD_eq (fun i hi => ?_)
  show ((a.toBitVec.signExtend 16).signExtend 32).getLsbD i = ((a.toBitVec <<< 16).sshiftRight 16).getLsbD i
  rw [BitVec.getLsbD_signExtend, BitVec.getLsbD_sshiftRight, BitVec.msb_eq_getLsbD_last, BitVec.msb_eq_getLsbD_last, BitVec.getLsbD_signExtend, BitVec.getLsbD_signExtend, BitVec.getLsbD_shiftLeft, BitVec.getLsbD_shiftLeft]
  by_cases c : i < 16
  · rw [if_pos c, if_pos (by omega), if_pos (by omega), decide_eq_true hi, decide_eq_true c, decide_eq_false (by omega : ¬ 32 ≤ i), decide_eq_true (by omega : 16 + i < 32), decide_eq_false (by omega : ¬ 16 + i < 16), show 16 + i - 16 = i by omega]
    rfl
  · rw [if_neg c, if_pos (show 16 - 1 < 32 by decide), if_neg (show ¬ 16 + i < 32 by omega), decide_eq_true hi, decide_eq_false (by omega : ¬ 32 ≤ i)]
    rfl
def pcB : Nat → Int32 → Int32 → Option Int32
  | 0, _, _ => none
  | k + 1, x, y => if y = 0 then some x else pcB k (x + 1) (y &&& (y - 1))
theorem pcB_L (σ : zg_S) (r : Int32) : ∀ (k m : Nat) (x y : Int32), pcB k x y = some r → L_X7_manyShaded_7 (k + m) x y σ = some (r, σ) := by
  intro k
  induction k with
  | zero => intro m x y h; exact absurd h (by intro z; cases z)
  | succ k ih =>
    intro m x y h
    rw [show k + 1 + m = (k + m) + 1 by omega]
    show B_X7_manyShaded_7 (L_X7_manyShaded_7 (k + m)) x y σ = some (r, σ)
    unfold B_X7_manyShaded_7
    have h : (if y = 0 then some x else pcB k (x + 1) (y &&& (y - 1))) = some r := h
    by_cases c : y = 0
    · rw [if_pos c] at h ⊢
      rw [Option.some.inj h]
    · rw [if_neg c] at h ⊢
      exact ih m _ _ h
def bcJ (a0 : Int32) : Int32 :=
  let y1 := a0 - (((Int32.toUInt32 a0 >>> (Int32.toUInt32 1 &&& Int32.toUInt32 31)).toInt32) &&& 1431655765)
  let y6 := (y1 &&& 858993459) + (((Int32.toUInt32 y1 >>> (Int32.toUInt32 2 &&& Int32.toUInt32 31)).toInt32) &&& 858993459)
  let y11 := (y6 + ((Int32.toUInt32 y6 >>> (Int32.toUInt32 4 &&& Int32.toUInt32 31)).toInt32)) &&& 252645135
  let y16 := y11 + ((Int32.toUInt32 y11 >>> (Int32.toUInt32 8 &&& Int32.toUInt32 31)).toInt32)
  let y21 := y16 + ((Int32.toUInt32 y16 >>> (Int32.toUInt32 16 &&& Int32.toUInt32 31)).toInt32)
  y21 &&& 63
theorem bcJ_f (a : Int32) (σ : zg_S) : f_J6_bitCount_0f7a4 a σ = some (bcJ a, σ) := rfl
theorem pcB_t : ∀ x : Fin 512, pcB 10 0 (Int32.ofBitVec (BitVec.ofNat 32 x.val)) = some (bcJ (Int32.ofBitVec (BitVec.ofNat 32 x.val))) := by decide +kernel
theorem pcB_r (a : Int32) (h : a.toBitVec.toNat < 512) : pcB 10 0 a = some (bcJ a) := by
  have e : Int32.ofBitVec (BitVec.ofNat 32 a.toBitVec.toNat) = a := by
    rw [BitVec.ofNat_toNat, BitVec.setWidth_eq]
    rfl
  have := pcB_t ⟨a.toBitVec.toNat, h⟩
  rw [e] at this
  exact this
theorem v_count {σ τ : zg_S} (h : RR σ τ) (hM : IMc τ) (a : Int32) : z2 (f_X6_count a σ) (f_X7_count a τ) SM := by
  obtain ⟨hE, hT, o, hC, h99⟩ := id h.1
  unfold f_X6_count f_X7_count f_X7_manyShaded
  refine z2_iL (fun c => z2_pR c (z2_some ⟨h.f 0 (by decide), h⟩)) (fun c => z2_nR c ?_)
  refine z2_iL (fun c => z2_pR c (z2_some ⟨h.f 2 (by decide), h⟩)) (fun c => z2_nR c ?_)
  refine z2_iL (fun c => z2_pR c ?_) (fun c => z2_nR c ?_)
  · obtain ⟨r, s, e1, rfl, e2⟩ := c_shadedSet hE o
    obtain ⟨r', t, e3, rfl, e4⟩ := r_shadedSet (τ := τ) rfl o
    obtain ⟨r2, t2, e5, _, e6⟩ := m_shadedSet τ hM
    have e7 : r' = r2 := by
      rw [e3] at e5
      injection e5 with e5
      exact (Prod.mk.inj e5).1
    subst e7
    have e8 : r = r' := e2.trans e4.symm
    subst e8
    rw [e1, zbd_s, bcJ_f, zbd_s, e3, zbd_s]
    rw [show zfu = 10 + 99990 from rfl, pcB_L τ _ 10 99990 0 r (pcB_r r e6), zbd_s]
    exact z2_some ⟨rfl, h⟩
  refine z2_iL (fun c => z2_pR c (z2_some ⟨h.f 1 (by decide), h⟩)) (fun c => z2_nR c ?_)
  refine z2_iL (fun c => z2_pR c (z2_some ⟨h.2.2.2.1.1, h⟩)) (fun c => z2_nR c ?_)
  refine z2_iL (fun c => z2_pR c (z2_some ⟨h.2.2.1.1, h⟩)) (fun c => z2_nR c ?_)
  refine z2_iL (fun c => z2_pR c (z2_some ⟨h.f 6 (by decide), h⟩)) (fun c => z2_nR c ?_)
  exact z2_some ⟨rfl, h⟩
theorem up_ne {ρ : zg_S} {p q i : Nat} {v : Int32} (h : q ≠ p) : zg_up ρ p i v q = ρ q := zg_row_ne h
theorem RR.place {σ τ : zg_S} {n i : Nat} {v : Int32} (h : RR σ τ) (hn : n < 4) (hi : i < 24) : RR (zg_up σ (53 + 2 * n + 1) i v) (zg_up τ 6 (24 * n + i) v) := by
  refine h.r5 (fun p k hp => congrFun (zg_row_ne (by omega)) k) (fun p k hp => congrFun (zg_row_ne (by omega)) k) (fun k hk => ?_)
  obtain ⟨x, y, z, w⟩ := h.2.2.2.2.1 k hk
  refine ⟨?_, ?_, fun j hj => ?_, ?_⟩
  · rw [up_ne (show 53 + 2 * k ≠ 53 + 2 * n + 1 by omega), up_ne (by decide)]; exact x
  · rw [up_ne (show 53 + 2 * k ≠ 53 + 2 * n + 1 by omega), up_ne (by decide)]; exact y
  · by_cases e : k = n ∧ j = i
    · obtain ⟨rfl, rfl⟩ := e
      exact zgot.trans zgot.symm
    · rw [show zg_up τ 6 (24 * n + i) v 6 (24 * k + j) = τ 6 (24 * k + j) from zkeepn (by omega)]
      by_cases e2 : k = n
      · subst e2
        exact (zkeepn (by omega)).trans (z j hj)
      · rw [up_ne (show 53 + 2 * k + 1 ≠ 53 + 2 * n + 1 by omega)]; exact z j hj
  · rw [up_ne (by decide)]; exact w
theorem v_mark {σ τ : zg_S} (h : RR σ τ) (hM : IMc τ) (a b c : Int32) : z2 (f_X6_mark a b c σ) (f_X7_mark a b c τ) SM := by
  have e0 := zt_0
  have e24 := zt_24
  unfold f_X6_mark f_X7_mark
  refine z2_sheet (z2_pL rfl (z2_pR rfl (z2_some (SM.rf h)))) (fun n hn h4 en zi => z2_nL one_ne (z2_nR one_ne (z2_pL zi (z2_pR zi ?_))))
  rw [en]
  have f5 : 0 ≤ (τ 5 n).toInt ∧ (τ 5 n).toInt ≤ 24 := hM 5 n
  rcases c_missing h h4 with ⟨m1, q1⟩ | ⟨m1, m2, q1⟩
  · refine z2_eL q1 (z2_nL one_ne (z2_nR (fun z => ?_) (z2_some (SM.rf h))))
    have := zle z
    have := zlt m1
    omega
  refine z2_eL q1 (z2_pL rfl (z2_pR m2 ?_))
  obtain ⟨x, y, z, w⟩ := h.2.2.2.2.1 n h4
  by_cases d : 0 ≤ b.toInt ∧ b.toInt < (τ 5 n).toInt
  · have nb := ztn d.1
    refine z2_eL (c_hasPlace1 (by rw [y]; exact f5.1) (by rw [y]; exact d)) (z2_nL one_ne ?_)
    refine z2_eR (r_place1 f5.1 d) (z2_nR one_ne ?_)
    rw [x]
    have pi := zTadd (zTmul (zTl zt_24) (zTs a) (by omega) (by omega)) (zTs b) (by omega) (by omega)
    have ii := zTn pi (show (24 * a.toInt + b.toInt : Int) = ((24 * n + b.toNatClampNeg : Nat) : Int) by omega)
    have zb : zin b 24 = true := zin_mk d.1 (by omega)
    have z6 := zin_mkT (n := 96) pi (by omega) (by omega)
    unfold B_X7_mark_63 B_X7_mark_96
    refine z2_iL (fun k0 => z2_pR k0 ?_) (fun k0 => z2_nR k0 ?_)
    · refine z2_iL (fun k1 => z2_pR k1 (z2_some (SM.rf h))) (fun k1 => z2_nR k1 ?_)
      refine z2_pL zb (z2_lL (fun s qs => ?_))
      refine z2_pR zi ?_
      rw [en]
      refine z2_nR (by rw [k0]; decide) (z2_pR zi (z2_pR k0 (z2_lR (fun v ev => z2_pR z6 (z2_lR (fun t qt => z2_some ⟨rfl, ?_⟩))))))
      rw [qs, qt, ev, ii, sh16]
      exact h.place h4 (by omega)
    · have k2 : τ 4 n = 1 := by
        rcases w with w | w | w
        · exact absurd m2 (by rw [w]; decide)
        · exact absurd w k0
        · exact w
      have fin : z2 (B_X6_mark_92 a b c (53 + 2 * n) σ) (if zin a 4 = true then (if (τ 4 a.toNatClampNeg) = 0 then zlet ((c <<< (16 &&& 31)) >>> (16 &&& 31)) (fun (y16 : Int32) => (if zin ((24 * a) + b) 96 = true then zlet (zg_up τ 6 (Int32.toNatClampNeg ((24 * a) + b)) y16) (fun (σ22 : zg_S) => some (1, σ22)) else none)) else (if zin ((24 * a) + b) 96 = true then zlet (zg_up τ 6 (Int32.toNatClampNeg ((24 * a) + b)) c) (fun (σ9 : zg_S) => some (1, σ9)) else none)) else none) SM := by
        unfold B_X6_mark_92
        refine z2_pL zb (z2_lL (fun s qs => z2_pR zi ?_))
        rw [en]
        refine z2_nR k0 (z2_pR z6 (z2_lR (fun t qt => z2_some ⟨rfl, ?_⟩)))
        rw [qs, qt, ii]
        exact h.place h4 (by omega)
      refine z2_pR zi ?_
      rw [en]
      rw [en] at fin
      refine z2_pR k2 ?_
      refine z2_iL (fun k1 => z2_pR k1 fin) (fun k1 => z2_nR k1 ?_)
      exact z2_within (fun _ => z2_pL rfl (z2_pR rfl (z2_some (SM.rf h)))) (fun h1 h2 => z2_nL one_ne (z2_nR one_ne fin))
  · refine z2_eL (c_hasPlace0 (by rw [y]; exact f5.1) (by rw [y]; exact d)) (z2_pL rfl ?_)
    exact z2_eR (r_place0 f5.1 d) (z2_pR rfl (z2_some (SM.rf h)))
