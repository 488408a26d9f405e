/-! feed -/
def bS (k : Nat) : Int32 := ([24, 16, 8, 0] : List Int32).getD k 0
def bt (a : Int32) (k : Nat) : Int32 := (a >>> (bS k &&& 31)) &&& 255
theorem byt {a S : Int32} {s : Nat} (hs : s ≤ 24) (e1 : ((Int32.toUInt32 S &&& Int32.toUInt32 31) % 32 : UInt32).toBitVec.toNat = s) (e2 : ((S &&& 31).toBitVec.smod 32).toNat = s) : ((Int32.toUInt32 a >>> (Int32.toUInt32 S &&& Int32.toUInt32 31)).toInt32) &&& 255 = (a >>> (S &&& 31)) &&& 255 := by
  refine Int32.toBitVec_inj.mp ?_
  rw [Int32.toBitVec_and, Int32.toBitVec_and]
  refine BitVec.eq_of_getLsbD_eq (fun i hi => ?_)
  rw [BitVec.getLsbD_and, BitVec.getLsbD_and]
  by_cases c : i < 8
  · have h1 : ((Int32.toUInt32 a >>> (Int32.toUInt32 S &&& Int32.toUInt32 31)).toInt32).toBitVec.getLsbD i = (a.toBitVec >>> ((Int32.toUInt32 S &&& Int32.toUInt32 31) % 32 : UInt32).toBitVec.toNat).getLsbD i := rfl
    have h2 : (a >>> (S &&& 31)).toBitVec.getLsbD i = (a.toBitVec.sshiftRight ((S &&& 31).toBitVec.smod 32).toNat).getLsbD i := rfl
    rw [h1, h2, e1, e2, BitVec.getLsbD_ushiftRight, BitVec.getLsbD_sshiftRight, if_pos (by omega), decide_eq_false (by omega : ¬ 32 ≤ i)]
    rfl
  · have : ∀ i, i < 32 → ¬ i < 8 → (255 : Int32).toBitVec.getLsbD i = false := by decide
    rw [this i hi c, Bool.and_false, Bool.and_false]
theorem byt_k {a x : Int32} {k : Nat} (hk : k < 4) (hx : x.toInt = 24 - 8 * (k : Int)) : ((Int32.toUInt32 a >>> (Int32.toUInt32 x &&& Int32.toUInt32 31)).toInt32) &&& 255 = bt a k := by
  rcases (show k = 0 ∨ k = 1 ∨ k = 2 ∨ k = 3 by omega) with rfl | rfl | rfl | rfl
  · have : x = 24 := Int32.toInt_inj.mp (by rw [hx]; decide)
    subst this
    exact byt (s := 24) (by decide) (by decide) (by decide)
  · have : x = 16 := Int32.toInt_inj.mp (by rw [hx]; decide)
    subst this
    exact byt (s := 16) (by decide) (by decide) (by decide)
  · have : x = 8 := Int32.toInt_inj.mp (by rw [hx]; decide)
    subst this
    exact byt (s := 8) (by decide) (by decide) (by decide)
  · have : x = 0 := Int32.toInt_inj.mp (by rw [hx]; decide)
    subst this
    exact byt (s := 0) (by decide) (by decide) (by decide)
theorem sft {x : Int32} {k : Nat} (h : x.toInt = k) (hk : k < 12) : 24 - (8 * (x - x / 4 * 4)) = bS (k % 4) := by
  have h1 : ∀ k : Fin 12, (Int32.ofNat k.val).toInt = k.val := by decide +kernel
  have h2 : ∀ k : Fin 12, 24 - (8 * ((Int32.ofNat k.val) - (Int32.ofNat k.val) / 4 * 4)) = bS (k.val % 4) := by decide +kernel
  have : x = Int32.ofNat k := Int32.toInt_inj.mp (by rw [h]; exact (h1 ⟨k, hk⟩).symm)
  rw [this]
  exact h2 ⟨k, hk⟩
theorem c_bytes (a : Int32) {m : Nat} {σ : zg_S} (h : (σ 0 10).toInt = m) (hm : m + 4 ≤ 96) : zk (f_X6_feedBytes a σ) (fun _ s => (s 0 10).toInt = ((m + 4 : Nat) : Int) ∧ (∀ j, j < m → s 6 j = σ 6 j) ∧ ∀ k, k < 4 → s 6 (m + k) = bt a k) := by
  have e0 := zt_0
  have e1 := zt_1
  have e96 := zt_96
  have e24 := zt_24
  have em8 : ((-8 : Int32)).toInt = -8 := by decide
  unfold f_X6_feedBytes L_X6_feedBytes_3
  refine zl_I (fun (x : Int32) (s : zg_S) => ∃ i : Nat, x.toInt = 24 - 8 * (i : Int) ∧ i ≤ 4 ∧ (s 0 10).toInt = ((m + i : Nat) : Int) ∧ (∀ j, j < m → s 6 j = σ 6 j) ∧ ∀ k, k < i → s 6 (m + k) = bt a k) (fun (x : Int32) (_ : zg_S) => (x.toInt + 8).toNat) ?_ zfu _ _ ⟨0, by omega, by omega, h, fun _ _ => rfl, fun k hk => by omega⟩ (by unfold zfu; omega)
  intro rec x s hI ih
  obtain ⟨i, hx, hi, hc, hl, hb⟩ := hI
  unfold B_X6_feedBytes_3
  refine zk_ite (fun hle => ?_) (fun hlt => ?_)
  · have := zlt hle
    have : i = 4 := by omega
    subst this
    exact zk_some ⟨hc, hl, hb⟩
  have gl := znlt hlt
  refine zk_ite (fun hle => ?_) (fun hlt2 => ?_)
  · have := zle hle
    omega
  refine zk_let (fun v ev => ?_)
  rw [byt_k (k := i) (by omega) hx] at ev
  have nc := ztn (i := s 0 10) (by omega)
  refine zk_in (zin_mk (by omega) (by omega)) (zk_let (fun s1 q1 => zk_let (fun s2 q2 => ?_)))
  rw [show (s 0 10).toNatClampNeg = m + i by omega] at q1
  have ex := zTe (zTadd (zTs x) (zTl em8) (by omega) (by omega))
  have c1 : s1 0 10 = s 0 10 := by rw [q1]; exact congrFun (zg_row_ne (by decide)) _
  have ec := zTe (zTadd (zTs (s1 0 10)) (zTl zt_1) (by rw [c1]; omega) (by rw [c1]; omega))
  have s6 : s2 6 = s1 6 := by rw [q2]; exact zg_row_ne (by decide)
  refine ih (x + (-8)) s2 ⟨i + 1, by rw [ex]; omega, by omega, ?_, fun j hj => ?_, fun k hk => ?_⟩ (by show ((x + (-8)).toInt + 8).toNat < (x.toInt + 8).toNat; rw [ex]; omega)
  · rw [q2, show zg_up s1 0 10 (s1 0 10 + 1) 0 10 = s1 0 10 + 1 from zgot, ec, c1]
    omega
  · rw [s6, q1]
    exact (zkeepn (by omega)).trans (hl j hj)
  · rw [s6, q1]
    by_cases e : k = i
    · subst e
      exact zgot.trans ev
    · exact (zkeepn (by omega)).trans (hb k (by omega))
def bA (a b c : Int32) (k : Nat) : Int32 := if k < 4 then a else if k < 8 then b else c
theorem r_feed (a b c : Int32) {m : Nat} {τ : zg_S} (h : (τ 0 14).toInt = m) (hm : m + 12 ≤ 96) : zk (L_X7_feed_18 a b c zfu 0 τ) (fun r s => r = s 0 14 ∧ (s 0 14).toInt = ((m + 12 : Nat) : Int) ∧ (∀ j, j < m → s 13 j = τ 13 j) ∧ ∀ k, k < 12 → s 13 (m + k) = bt (bA a b c k) (k % 4)) := by
  have e0 := zt_0
  have e1 := zt_1
  have e4 := zt_4
  have e8 := zt_8
  have e12 := zt_12
  unfold L_X7_feed_18
  refine zl_I (fun (x : Int32) (s : zg_S) => ∃ i : Nat, x.toInt = i ∧ i ≤ 12 ∧ (s 0 14).toInt = ((m + i : Nat) : Int) ∧ (∀ j, j < m → s 13 j = τ 13 j) ∧ ∀ k, k < i → s 13 (m + k) = bt (bA a b c k) (k % 4)) (fun (x : Int32) (_ : zg_S) => (12 - x.toInt).toNat) ?_ zfu _ _ ⟨0, by omega, by omega, h, fun _ _ => rfl, fun k hk => by omega⟩ (by unfold zfu; omega)
  intro rec x s hI ih
  obtain ⟨i, hx, hi, hc, hl, hb⟩ := hI
  unfold B_X7_feed_18
  refine zk_ite (fun hle => ?_) (fun hlt => ?_)
  · have := zle hle
    have : i = 12 := by omega
    subst this
    exact zk_some ⟨rfl, hc, hl, hb⟩
  have gl := znle hlt
  have nc := ztn (i := s 0 14) (by omega)
  have go : ∀ y : Int32, y = bA a b c i → zk (B_X7_feed_47 a b c rec x y s) (fun r s => r = s 0 14 ∧ (s 0 14).toInt = ((m + 12 : Nat) : Int) ∧ (∀ j, j < m → s 13 j = τ 13 j) ∧ ∀ k, k < 12 → s 13 (m + k) = bt (bA a b c k) (k % 4)) := fun y hy => by
    unfold B_X7_feed_47
    refine zk_let (fun v ev => ?_)
    rw [sft hx (by omega)] at ev
    refine zk_in (zin_mk (by omega) (by omega)) (zk_let (fun s1 q1 => zk_let (fun s2 q2 => ?_)))
    rw [show (s 0 14).toNatClampNeg = m + i by omega] at q1
    have ex := zTe (zTadd (zTs x) (zTl zt_1) (by omega) (by omega))
    have c1 : s1 0 14 = s 0 14 := by rw [q1]; exact congrFun (zg_row_ne (by decide)) _
    have ec := zTe (zTadd (zTs (s1 0 14)) (zTl zt_1) (by rw [c1]; omega) (by rw [c1]; omega))
    have s6 : s2 13 = s1 13 := by rw [q2]; exact zg_row_ne (by decide)
    refine ih (x + 1) s2 ⟨i + 1, by rw [ex]; omega, by omega, ?_, fun j hj => ?_, fun k hk => ?_⟩ (by show (12 - (x + 1).toInt).toNat < (12 - x.toInt).toNat; rw [ex]; omega)
    · rw [q2, show zg_up s1 0 14 (s1 0 14 + 1) 0 14 = s1 0 14 + 1 from zgot, ec, c1]
      omega
    · rw [s6, q1]
      exact (zkeepn (by omega)).trans (hl j hj)
    · rw [s6, q1]
      by_cases e : k = i
      · subst e
        refine zgot.trans (ev.trans ?_)
        rw [hy]
        rfl
      · exact (zkeepn (by omega)).trans (hb k (by omega))
  refine zk_ite (fun h4 => ?_) (fun h4 => ?_)
  · have g4 := zle h4
    refine zk_ite (fun h8 => ?_) (fun h8 => ?_)
    · have g8 := zle h8
      exact go _ (by unfold bA; rw [if_neg (by omega), if_neg (by omega)])
    · have g8 := znle h8
      exact go _ (by unfold bA; rw [if_neg (by omega), if_pos (by omega)])
  · have g4 := znle h4
    exact go _ (by unfold bA; rw [if_pos (by omega)])
theorem v_feed {σ τ : zg_S} (h : RR σ τ) (hM : 0 ≤ (τ 0 14).toInt ∧ (τ 0 14).toInt ≤ 96) (a b c : Int32) : z2 (f_X6_feed a b c σ) (f_X7_feed a b c τ) SM := by
  have e0 := zt_0
  have e12 := zt_12
  have e96 := zt_96
  obtain ⟨hc, hl⟩ := h.2.2.1
  have ec := zTe (zTadd (zTs (τ 0 14)) (zTl zt_12) (by omega) (by omega))
  suffices z2 (f_X6_feed a b c σ) (f_X7_feed a b c τ) (fun r s r' t => r = r' ∧ R3 s t) by
    refine z2_mono (z2_w this (w_X6_feed a b c σ) (w_X7_feed a b c τ)) (fun r s r' t hq => ?_)
    obtain ⟨⟨q1, q2⟩, hw, hw'⟩ := hq
    exact ⟨q1, h.r3 (fun p k hp => hw p k (fun z => by unfold W_X6_feed at z; omega)) (fun p k hp => hw' p k (fun z => by unfold W_X7_feed at z; omega)) q2⟩
  unfold f_X6_feed f_X7_feed
  rw [hc]
  refine z2_iL (fun d => z2_pR d ?_) (fun d => z2_nR d (z2_some ⟨rfl, h.2.2.1⟩))
  have gd := zle d
  obtain ⟨m, hm⟩ : ∃ m : Nat, (τ 0 14).toInt = m := ⟨(τ 0 14).toInt.toNat, by omega⟩
  refine z2_cL (c_bytes a (m := m) (by rw [hc]; exact hm) (by omega)) (fun _ s1 p1 => ?_)
  refine z2_cL (c_bytes b p1.1 (by omega)) (fun _ s2 p2 => ?_)
  refine z2_cL (c_bytes c p2.1 (by omega)) (fun _ s3 p3 => ?_)
  obtain ⟨r', t, et, t1, t2, t3, t4⟩ := r_feed a b c hm (by omega)
  have cc : s3 0 10 = t 0 14 := Int32.toInt_inj.mp (by rw [p3.1, t2])
  refine ⟨_, s3, r', t, rfl, et, cc.trans t1.symm, cc, fun i hi => ?_⟩
  rw [t2] at hi
  by_cases c0 : i < m
  · rw [p3.2.1 i (by omega), p2.2.1 i (by omega), p1.2.1 i c0, t3 i c0]
    exact hl i (by omega)
  · obtain ⟨k, rfl⟩ : ∃ k, i = m + k := ⟨i - m, by omega⟩
    rw [t4 k (by omega)]
    unfold bA
    by_cases c4 : k < 4
    · rw [if_pos c4, p3.2.1 _ (by omega), p2.2.1 _ (by omega), p1.2.2 k c4, show k % 4 = k by omega]
    · rw [if_neg c4]
      by_cases c8 : k < 8
      · rw [if_pos c8, p3.2.1 _ (by omega), show m + k = m + 4 + (k - 4) by omega, p2.2.2 (k - 4) (by omega), show k % 4 = k - 4 by omega]
      · rw [if_neg c8, show m + k = m + 4 + 4 + (k - 8) by omega, p3.2.2 (k - 8) (by omega), show k % 4 = k - 8 by omega]
