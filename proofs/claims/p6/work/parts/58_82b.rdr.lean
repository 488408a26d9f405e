/-! both readers, side by side -/
theorem z2_cc {o o' : Option (Int32 × zg_S)} {k k' : Int32 → zg_S → Option (Int32 × zg_S)} {Q P : Int32 → zg_S → Int32 → zg_S → Prop} (h : z2 o o' Q) (hk : ∀ r s r' t, Q r s r' t → z2 (k r s) (k' r' t) P) : z2 (zbd o k) (zbd o' k') P := by
  obtain ⟨r, s, r', t, rfl, rfl, q⟩ := h
  exact hk r s r' t q
/-- what the reference holds of the piece -/
def tok (τ : zg_S) : Prop :=
  (τ 0 17 = 1 → (∀ i : Nat, (τ 0 15).toInt ≤ i → (i : Int) < (τ 0 16).toInt → qL (τ 0 14).toInt (τ 13) i) ∧ (((τ 0 16).toInt = (τ 0 15).toInt + 1 ∧ τ 0 19 = τ 13 (τ 0 15).toNatClampNeg) ∨ (¬ (τ 0 16).toInt = (τ 0 15).toInt + 1 ∧ τ 0 19 = 0))) ∧
  (τ 0 17 = 2 → (∀ i : Nat, (τ 0 15).toInt ≤ i → (i : Int) < (τ 0 16).toInt → qD (τ 0 14).toInt (τ 13) i) ∧ (τ 0 16).toInt - (τ 0 15).toInt ≤ 4 ∧ τ 0 18 = nv (τ 13) (τ 0 15).toNatClampNeg ((τ 0 16).toInt - (τ 0 15).toInt).toNat) ∧
  (τ 0 17 = 3 → (τ 0 16).toInt = (τ 0 15).toInt + 1 ∧ τ 0 19 = τ 13 (τ 0 15).toNatClampNeg)
/-- both stand at the same piece -/
def TK (σ τ : zg_S) : Prop := σ 7 4 = τ 0 15 ∧ σ 7 3 = τ 0 17 ∧ σ 7 5 = τ 0 16 ∧ 0 ≤ (τ 0 15).toInt ∧ (τ 0 15).toInt ≤ (τ 0 16).toInt ∧ (τ 0 16).toInt ≤ (τ 0 14).toInt ∧ (τ 0 17 = 0 ∨ (τ 0 15).toInt < (τ 0 16).toInt) ∧ tok τ
def TP (σ τ : zg_S) : Prop := σ 7 2 = τ 0 14 ∧ ∀ i : Nat, (i : Int) < (τ 0 14).toInt → σ 6 i = τ 13 i
def TG (σ τ : zg_S) : Prop := aG σ ↔ (0 < (τ 0 16).toInt ∧ (τ 0 17 = 1 ∨ τ 0 17 = 2))
theorem TK.tg {σ τ : zg_S} (h : TK σ τ) : TG σ τ := by
  obtain ⟨_, h2, _, h4, h5, _, h7, _⟩ := h
  unfold TG aG
  rw [h2]
  refine ⟨fun z => ⟨?_, z⟩, fun z => z.2⟩
  rcases h7 with h7 | h7
  · rw [h7] at z
    exact absurd z (by decide)
  · omega
theorem z2_adv0 {σ τ : zg_S} {P : Int32 → zg_S → Int32 → zg_S → Prop} {k k' : Int32 → zg_S → Option (Int32 × zg_S)} (hm : IMc τ) (h1 : (τ 0 16).toInt ≤ (τ 0 14).toInt) (hp : TP σ τ) (h5 : σ 7 5 = τ 0 16) (hg : TG σ τ) (hk : ∀ r s r' t, wr W_X1_advance σ s → tk τ t → IMc t → TK s t → TP s t → (τ 0 16).toInt ≤ (t 0 15).toInt → z2 (k r s) (k' r' t) P) : z2 (zbd (f_X1_advance σ) k) (zbd (f_X7_nextToken τ) k') P := by
  have f14 : 0 ≤ (τ 0 14).toInt ∧ (τ 0 14).toInt ≤ 96 := hm 0 14
  have f16 : 0 ≤ (τ 0 16).toInt ∧ (τ 0 16).toInt ≤ 96 := hm 0 16
  refine z2_cL (a_adv σ (by rw [hp.1]; omega) (by rw [h5]; omega) (by rw [h5, hp.1]; exact h1)) (fun r s hs => ?_)
  refine z2_cR (s_X7_nextToken τ hm h1) (fun r' t ht => ?_)
  obtain ⟨ha, hw⟩ := hs
  obtain ⟨it, kt, hq⟩ := ht
  unfold AQ at ha
  rw [h5, hp.1] at ha
  have hc := tq_e f16.1 hp.2 hg ha
  obtain ⟨eB, eE, eK⟩ := tq_u f16.1 hc (nQ_tq hq)
  obtain ⟨n1, n2, n3, n4, n5⟩ := hq
  have kn := kt.n
  have kT := kt.t
  have h01 : ¬ (0 : Int32) = 1 := by decide
  refine hk r s r' t hw kt it ⟨eB, eK, eE, by omega, n2, by rw [kn]; exact n3, ?_, ?_⟩ ⟨(hw 7 2 (by unfold W_X1_advance; omega)).trans (hp.1.trans kn.symm), fun i hi => ?_⟩ n1
  · rcases n5 with ⟨_, n5, _⟩ | ⟨n5, _⟩ | ⟨n5, _⟩ | ⟨n5, _⟩
    · exact Or.inl n5
    · exact Or.inr n5
    · exact Or.inr n5
    · exact Or.inr (by omega)
  · unfold tok
    rw [kn, kT]
    refine ⟨fun hK => ?_, fun hK => ?_, fun hK => ?_⟩
    · rcases n5 with ⟨_, x, _⟩ | ⟨_, x, _, _, y⟩ | ⟨_, _, _, _, x⟩ | ⟨_, _, _, _, x, _⟩
      · exact absurd (x.symm.trans hK) (by decide)
      · exact ⟨x, y⟩
      · rcases x with x | x
        · exact absurd (x.2.symm.trans hK) (by decide)
        · exact absurd (x.2.symm.trans hK) (by decide)
      · exact absurd (x.symm.trans hK) (by decide)
    · rcases n5 with ⟨_, x, _⟩ | ⟨_, _, _, x, _⟩ | ⟨_, x, _, y, z⟩ | ⟨_, _, _, _, x, _⟩
      · exact absurd (x.symm.trans hK) (by decide)
      · rcases x with x | x
        · exact absurd (x.2.symm.trans hK) (by decide)
        · exact absurd (x.2.symm.trans hK) (by decide)
      · rcases z with z | z
        · exact absurd (z.2.symm.trans hK) (by decide)
        · have h4 : ¬ 4 < (t 0 16).toInt - (t 0 15).toInt := fun w => z.1 (Or.inr w)
          refine ⟨x, by omega, ?_⟩
          rw [show min 4 ((t 0 16).toInt - (t 0 15).toInt).toNat = ((t 0 16).toInt - (t 0 15).toInt).toNat by omega] at y
          exact y
      · exact absurd (x.symm.trans hK) (by decide)
    · rcases n5 with ⟨_, x, _⟩ | ⟨_, _, _, x, _⟩ | ⟨_, _, _, _, x⟩ | ⟨x, _, _, _, _, y⟩
      · exact absurd (x.symm.trans hK) (by decide)
      · rcases x with x | x
        · exact absurd (x.2.symm.trans hK) (by decide)
        · exact absurd (x.2.symm.trans hK) (by decide)
      · rcases x with x | x
        · exact absurd (x.2.symm.trans hK) (by decide)
        · exact absurd (x.2.symm.trans hK) (by decide)
      · exact ⟨x, y⟩
  · rw [kn] at hi
    rw [kT]
    exact (hw 6 i (by unfold W_X1_advance; omega)).trans (hp.2 i hi)
/-- the same steps so far -/
def SP (key : Int32) (σ τ : zg_S) : Prop := σ 8 0 = key ∧ σ 8 2 = τ 0 22 ∧ ∀ i : Nat, (i : Int) < (τ 0 22).toInt → SR key (σ 9 i) (τ 1 (mb τ + 2 * i)) (τ 1 (mb τ + 2 * i + 1))
def OP (σ τ : zg_S) : Prop := σ 7 6 = τ 0 20 ∧ σ 7 7 = τ 0 21
def PR (key : Int32) (σ τ : zg_S) : Prop := PS τ ∧ TK σ τ ∧ TP σ τ ∧ SP key σ τ ∧ OP σ τ ∧ σ 8 1 = τ 0 24
theorem SP.k {key : Int32} {σ s τ t : zg_S} (h : SP key σ τ) (a : ∀ k, s 8 k = σ 8 k) (b : ∀ k, s 9 k = σ 9 k) (c : t 0 22 = τ 0 22) (d : t 0 23 = τ 0 23) (e : t 1 = τ 1) : SP key s t := by
  have hm : mb t = mb τ := congrArg Int32.toNatClampNeg d
  refine ⟨(a 0).trans h.1, (a 2).trans (h.2.1.trans c.symm), fun i hi => ?_⟩
  rw [c] at hi
  rw [b, e, hm]
  exact h.2.2 i hi
theorem z2_adv {key : Int32} {σ τ : zg_S} {P : Int32 → zg_S → Int32 → zg_S → Prop} {k k' : Int32 → zg_S → Option (Int32 × zg_S)} (hm : IMc τ) (hb : sB τ) (h1 : (τ 0 16).toInt ≤ (τ 0 14).toInt) (h2 : (τ 0 22).toInt ≤ (τ 0 16).toInt) (ho : 0 ≤ (τ 0 20).toInt ∧ (τ 0 20).toInt ≤ 8 ∧ 0 ≤ (τ 0 21).toInt ∧ (τ 0 21).toInt ≤ 8) (hp : TP σ τ) (h5 : σ 7 5 = τ 0 16) (hg : TG σ τ) (hs : SP key σ τ) (hq : OP σ τ) (hl : σ 8 1 = τ 0 24) (hk : ∀ r s r' t, PR key s t → tk τ t → (τ 0 16).toInt ≤ (t 0 15).toInt → z2 (k r s) (k' r' t) P) : z2 (zbd (f_X1_advance σ) k) (zbd (f_X7_nextToken τ) k') P := by
  refine z2_adv0 hm h1 hp h5 hg (fun r s r' t hw kt it hT hP hB => ?_)
  have cw : ∀ p j, p ≠ 7 → s p j = σ p j := fun p j hn => hw p j (by unfold W_X1_advance; omega)
  have c22 := kt.2 22 (by decide)
  have c23 := kt.2 23 (by decide)
  have c20 := kt.2 20 (by decide)
  have c21 := kt.2 21 (by decide)
  have hps : PS t := by
    refine ⟨it, ?_, hT.2.2.2.2.1, hT.2.2.2.2.2.1, hT.2.2.2.2.2.2.1, by rw [c22]; omega, by rw [c20]; exact ho.1, by rw [c20]; exact ho.2.1, by rw [c21]; exact ho.2.2.1, by rw [c21]; exact ho.2.2.2⟩
    unfold sB
    rw [c22, c23]
    exact hb
  refine hk r s r' t ⟨hps, hT, hP, hs.k (fun j => cw 8 j (by decide)) (fun j => cw 9 j (by decide)) c22 c23 (kt.1 1 (by decide)), ⟨(hw 7 6 (by unfold W_X1_advance; omega)).trans (hq.1.trans c20.symm), (hw 7 7 (by unfold W_X1_advance; omega)).trans (hq.2.trans c21.symm)⟩, (cw 8 1 (by decide)).trans (hl.trans (kt.2 24 (by decide)).symm)⟩ kt hB
theorem z2_nx {key : Int32} {σ τ : zg_S} {P : Int32 → zg_S → Int32 → zg_S → Prop} {k k' : Int32 → zg_S → Option (Int32 × zg_S)} (h : PR key σ τ) (hk : ∀ r s r' t, PR key s t → tk τ t → (τ 0 16).toInt ≤ (t 0 15).toInt → z2 (k r s) (k' r' t) P) : z2 (zbd (f_X1_advance σ) k) (zbd (f_X7_nextToken τ) k') P := by
  obtain ⟨⟨q1, q2, q3, q4, q5, q6, q7, q8, q9, q10⟩, h2, h3, h4, h5, h6⟩ := h
  exact z2_adv q1 q2 q4 (by omega) ⟨q7, q8, q9, q10⟩ h3 h2.2.2.1 h2.tg h4 h5 h6 hk
/-! steps -/
def cA (σ s : zg_S) (c : Int32) : Prop := (∀ p k, p ≠ 8 → p ≠ 9 → s p k = σ p k) ∧ s 8 0 = σ 8 0 ∧ s 8 2 = σ 8 2 + 1 ∧ s 9 (σ 8 2).toNatClampNeg = c ∧ ∀ i, i ≠ (σ 8 2).toNatClampNeg → s 9 i = σ 9 i
theorem c_addStep (c : Int32) (σ : zg_S) (h0 : 0 ≤ (σ 8 2).toInt) (h1 : (σ 8 2).toInt < 96) : zk (f_X5_addStep 8 c σ) (fun _ s => cA σ s c ∧ s 8 1 = σ 8 1) := by
  have e96 := zt_96
  unfold f_X5_addStep
  refine zk_ite (fun h => ?_) (fun _ => ?_)
  · have := zle h
    omega
  refine zk_in (zin_mk h0 (by omega)) ?_
  refine zk_let (fun s q => ?_)
  have r : ∀ p, p ≠ 9 → s p = σ p := fun p hp => by rw [q]; exact zg_row_ne hp
  have s82 : s 8 2 = σ 8 2 := congrFun (r 8 (by decide)) 2
  rw [s82]
  refine zk_let (fun u q2 => ?_)
  have ru : ∀ p, p ≠ 8 → u p = s p := fun p hp => by rw [q2]; exact zg_row_ne hp
  refine zk_some ⟨⟨fun p k h8 h9 => (congrFun (ru p h8) k).trans (congrFun (r p h9) k), ?_, by rw [q2]; exact zgot, ?_, fun i hi => ?_⟩, ?_⟩
  · rw [q2]
    exact (zkeepf rfl).trans (congrFun (r 8 (by decide)) 0)
  · rw [ru 9 (by decide), q]
    exact zgot
  · rw [ru 9 (by decide), q]
    exact zkeepn hi
  · rw [q2]
    exact (zkeepf rfl).trans (congrFun (r 8 (by decide)) 1)
theorem c_addLeaf (c : Int32) (σ : zg_S) (h0 : 0 ≤ (σ 8 2).toInt) (h1 : (σ 8 2).toInt < 96) : zk (f_X5_addLeaf 8 c σ) (fun _ s => cA σ s c ∧ s 8 1 = σ 8 1 + 1) := by
  unfold f_X5_addLeaf
  refine zk_let (fun s q => ?_)
  have r : ∀ p, p ≠ 8 → s p = σ p := fun p hp => by rw [q]; exact zg_row_ne hp
  have s0 : s 8 0 = σ 8 0 := by rw [q]; exact zkeepf rfl
  have s1 : s 8 1 = σ 8 1 + 1 := by rw [q]; exact zgot
  have s2 : s 8 2 = σ 8 2 := by rw [q]; exact zkeepf rfl
  refine zk_call (c_addStep c s (by rw [s2]; exact h0) (by rw [s2]; exact h1)) (fun _ u hp => ?_)
  obtain ⟨⟨a1, a2, a3, a4, a5⟩, a6⟩ := hp
  rw [s2] at a3 a4 a5
  exact zk_some ⟨⟨fun p k h8 h9 => (a1 p k h8 h9).trans (congrFun (r p h8) k), a2.trans s0, a3, a4, fun i hi => (a5 i hi).trans (congrFun (r 9 (by decide)) i)⟩, a6.trans s1⟩
theorem SP.add {key c w v : Int32} {σ s τ t : zg_S} (h : SP key σ τ) (hb : sB τ) (hl : (τ 0 22).toInt < 96) (hc : cA σ s c) (p2 : ∀ k, k ≠ 22 → t 0 k = τ 0 k) (p3 : t 0 22 = τ 0 22 + 1) (p4 : t 1 (mb τ + 2 * ml τ) = w) (p5 : t 1 (mb τ + 2 * ml τ + 1) = v) (p6 : ∀ k, k ≠ mb τ + 2 * ml τ → k ≠ mb τ + 2 * ml τ + 1 → t 1 k = τ 1 k) (hr : SR key c w v) : SP key s t := by
  obtain ⟨a1, a2, a3, a4, a5⟩ := hc
  obtain ⟨h1, h2, h3⟩ := h
  have e1 := zt_1
  have nl := ztn hb.1
  have ea := zTe (zTadd (zTs (τ 0 22)) (zTl zt_1) (by have := hb.1; omega) (by omega))
  have hm : mb t = mb τ := congrArg Int32.toNatClampNeg (p2 23 (by decide))
  rw [h2] at a3 a4 a5
  refine ⟨a2.trans h1, a3.trans p3.symm, fun i hi => ?_⟩
  rw [p3, ea] at hi
  rw [hm]
  by_cases c' : i = ml τ
  · subst c'
    rw [p4, p5, show ml τ = (τ 0 22).toNatClampNeg from rfl, a4]
    exact hr
  · have hlt : (i : Int) < (τ 0 22).toInt := by unfold ml at c'; omega
    rw [a5 i c', p6 _ (by omega) (by omega), p6 _ (by omega) (by omega)]
    exact h3 i hlt
/-- how far the reading has gone -/
def ND (τ t : zg_S) : Prop := (τ 0 22).toInt ≤ (t 0 22).toInt ∧ (t 0 22).toInt - (τ 0 22).toInt ≤ (t 0 15).toInt - (τ 0 15).toInt ∧ (τ 0 15).toInt ≤ (t 0 15).toInt ∧ t 0 20 = τ 0 20 ∧ t 0 21 = τ 0 21
def RQ (key : Int32) (τ : zg_S) (r : Int32) (s : zg_S) (r' : Int32) (t : zg_S) : Prop := r = r' ∧ ((r = 0 ∧ s 7 4 = t 0 15) ∨ (r = 1 ∧ PR key s t ∧ ND τ t))
/-- a step on both sides, at a piece -/
theorem z2_step {key c w v : Int32} {σ τ τ0 : zg_S} {P : Int32 → zg_S → Int32 → zg_S → Prop} {k k' : Int32 → zg_S → Option (Int32 × zg_S)} (h : PR key σ τ) (hr : SR key c w v) (l1 : (τ0 0 22).toInt ≤ (τ 0 22).toInt) (l2 : (τ 0 22).toInt + 1 - (τ0 0 22).toInt ≤ (τ 0 15).toInt - (τ0 0 15).toInt) (l3 : (τ0 0 15).toInt ≤ (τ 0 15).toInt) (l4 : (τ 0 22).toInt + 1 ≤ (τ 0 15).toInt) (k20 : τ 0 20 = τ0 0 20) (k21 : τ 0 21 = τ0 0 21) (hk : ∀ r s r' t, PR key s t → ND τ0 t → t 0 15 = τ 0 15 → z2 (k r s) (k' r' t) P) : z2 (zbd (f_X5_addStep 8 c σ) k) (zbd (f_X7_step w v τ) k') P := by
  obtain ⟨⟨q1, q2, q3, q4, q5, q6, q7, q8, q9, q10⟩, hT, hP, hS, hO, hL⟩ := h
  have e1 := zt_1
  have f14 : 0 ≤ (τ 0 14).toInt ∧ (τ 0 14).toInt ≤ 96 := q1 0 14
  have e82 := hS.2.1
  have b0 := q2.1
  refine z2_cL (c_addStep c σ (by rw [e82]; exact q2.1) (by rw [e82]; omega)) (fun r s hs => ?_)
  refine z2_cR (m_step w v τ q1 q2) (fun r' t ht => ?_)
  obtain ⟨hc, c81⟩ := hs
  obtain ⟨it, p1, p2, p3, p4, p5, p6⟩ := ht
  have ea := zTe (zTadd (zTs (τ 0 22)) (zTl zt_1) (by omega) (by omega))
  have t22 : (t 0 22).toInt = (τ 0 22).toInt + 1 := by rw [p3]; exact ea
  have hS' : SP key s t := hS.add q2 (by omega) hc p2 p3 p4 p5 p6 hr
  have cw := hc.1
  have t13 : t 13 = τ 13 := p1 13 (by decide) (by decide)
  have hps : PS t := ⟨it, ⟨by omega, by omega, by rw [p2 23 (by decide)]; exact q2.2.2.1, by rw [p2 23 (by decide)]; exact q2.2.2.2⟩, by rw [p2 15 (by decide), p2 16 (by decide)]; exact q3, by rw [p2 16 (by decide), p2 14 (by decide)]; exact q4, by rw [p2 17 (by decide), p2 15 (by decide), p2 16 (by decide)]; exact q5, by rw [p2 15 (by decide)]; omega, by rw [p2 20 (by decide)]; exact q7, by rw [p2 20 (by decide)]; exact q8, by rw [p2 21 (by decide)]; exact q9, by rw [p2 21 (by decide)]; exact q10⟩
  refine hk r s r' t ⟨hps, ?_, ?_, hS', ?_, ?_⟩ ⟨by omega, by rw [p2 15 (by decide)]; omega, by rw [p2 15 (by decide)]; exact l3, (p2 20 (by decide)).trans k20, (p2 21 (by decide)).trans k21⟩ (p2 15 (by decide))
  · unfold TK tok
    rw [cw 7 4 (by decide) (by decide), cw 7 3 (by decide) (by decide), cw 7 5 (by decide) (by decide), p2 15 (by decide), p2 16 (by decide), p2 17 (by decide), p2 18 (by decide), p2 19 (by decide), p2 14 (by decide), t13]
    exact hT
  · unfold TP
    rw [cw 7 2 (by decide) (by decide), p2 14 (by decide), t13]
    exact ⟨hP.1, fun i hi => (cw 6 i (by decide) (by decide)).trans (hP.2 i hi)⟩
  · unfold OP
    rw [cw 7 6 (by decide) (by decide), cw 7 7 (by decide) (by decide), p2 20 (by decide), p2 21 (by decide)]
    exact hO
  · rw [c81, p2 24 (by decide)]
    exact hL
