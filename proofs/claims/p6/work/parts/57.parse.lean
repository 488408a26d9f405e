theorem m_isWordAt (a1 a2 a3 a4 : Int32) (σ : zg_S) (hσ : IMc σ) : zk (f_X7_isWordAt a1 a2 a3 a4 σ) (fun r s => σ = s ∧ (r = 0 ∨ r = 1)) := by
  have e1 := zt_1
  have e2 := zt_2
  have e3 := zt_3
  have e4 := zt_4
  have f15 : 0 ≤ (σ 0 15).toInt ∧ (σ 0 15).toInt ≤ 96 := hσ 0 15
  have f16 : 0 ≤ (σ 0 16).toInt ∧ (σ 0 16).toInt ≤ 96 := hσ 0 16
  have es := zsubn (σ 0 16) (σ 0 15) f16.1 f15.1
  have ee : ∀ y : Int32, (y = 3 ∧ a4 = 0) ∨ y = 4 → zk (B_X7_isWordAt_10 a1 a2 a3 a4 y σ) (fun r s => σ = s ∧ (r = 0 ∨ r = 1)) := fun y hy => by
    unfold B_X7_isWordAt_10
    have o : zk (some ((0 : Int32), σ)) (fun r s => σ = s ∧ (r = 0 ∨ r = 1)) := zk_some ⟨rfl, Or.inl rfl⟩
    have i : zk (some ((1 : Int32), σ)) (fun r s => σ = s ∧ (r = 0 ∨ r = 1)) := zk_some ⟨rfl, Or.inr rfl⟩
    refine zk_ite (fun _ => ?_) (fun _ => o)
    refine zk_ite (fun hl => ?_) (fun _ => o)
    have g := zeq hl
    have hy' : y.toInt = 3 ∧ a4 = 0 ∨ y.toInt = 4 := hy.imp (fun h => ⟨by rw [h.1]; exact zt_3, h.2⟩) (fun h => by rw [h]; exact zt_4)
    refine zk_in (zin_mk f15.1 (by omega)) ?_
    refine zk_ite (fun _ => ?_) (fun _ => o)
    refine zk_in (zin_mkT (zTadd (zTs _) (zTl zt_1) (by omega) (by omega)) (by omega) (by omega)) ?_
    refine zk_ite (fun _ => ?_) (fun _ => o)
    refine zk_in (zin_mkT (zTadd (zTs _) (zTl zt_2) (by omega) (by omega)) (by omega) (by omega)) ?_
    refine zk_ite (fun _ => ?_) (fun _ => o)
    refine zk_ite (fun _ => i) (fun h4 => ?_)
    have hy4 : y.toInt = 4 := hy'.resolve_left (fun z => h4 z.2)
    refine zk_in (zin_mkT (zTadd (zTs _) (zTl zt_3) (by omega) (by omega)) (by omega) (by omega)) ?_
    exact zk_ite (fun _ => i) (fun _ => o)
  unfold f_X7_isWordAt
  exact zk_ite (fun h => ee 3 (Or.inl ⟨rfl, h⟩)) (fun _ => ee 4 (Or.inr rfl))
theorem m_key (σ : zg_S) (hσ : IMc σ) : zk (f_X7_key σ) (fun r s => σ = s ∧ (r = -1 ∨ r = 0 ∨ r = 1 ∨ r = 2)) := by
  unfold f_X7_key
  refine zk_call (m_isWordAt 109 101 108 116 σ hσ) (fun r s hp => ?_)
  obtain ⟨rfl, _⟩ := hp
  refine zk_ite (fun _ => ?_) (fun _ => zk_some ⟨rfl, Or.inr (Or.inl rfl)⟩)
  refine zk_call (m_isWordAt 102 101 101 0 σ hσ) (fun r s hp => ?_)
  obtain ⟨rfl, _⟩ := hp
  refine zk_ite (fun _ => ?_) (fun _ => zk_some ⟨rfl, Or.inr (Or.inr (Or.inl rfl))⟩)
  refine zk_call (m_isWordAt 102 105 110 101 σ hσ) (fun r s hp => ?_)
  obtain ⟨rfl, _⟩ := hp
  exact zk_ite (fun _ => zk_some ⟨rfl, Or.inl rfl⟩) (fun _ => zk_some ⟨rfl, Or.inr (Or.inr (Or.inr rfl))⟩)
theorem m_isName (a0 a1 : Int32) (σ : zg_S) : zk (f_X7_isName a0 a1 σ) (fun r s => σ = s ∧ (r = 0 ∨ (r = 1 ∧ 0 ≤ a1.toInt ∧ a1.toInt < 128))) := by
  unfold f_X7_isName
  have o : zk (some ((0 : Int32), σ)) (fun r s => σ = s ∧ (r = 0 ∨ (r = 1 ∧ 0 ≤ a1.toInt ∧ a1.toInt < 128))) := zk_some ⟨rfl, Or.inl rfl⟩
  have i : ∀ c : Int32, 0 ≤ c.toInt ∧ c.toInt < 128 → a1 = c → zk (some ((1 : Int32), σ)) (fun r s => σ = s ∧ (r = 0 ∨ (r = 1 ∧ 0 ≤ a1.toInt ∧ a1.toInt < 128))) := fun c hc h => zk_some ⟨rfl, Or.inr ⟨rfl, by rw [h]; exact hc⟩⟩
  refine zk_ite (fun _ => ?_) (fun _ => zk_ite (fun _ => ?_) (fun _ => ?_))
  · exact zk_ite (i _ (by decide)) (fun _ => zk_ite (i _ (by decide)) (fun _ => zk_ite (i _ (by decide)) (fun _ => o)))
  · exact zk_ite (i _ (by decide)) (fun _ => zk_ite (i _ (by decide)) (fun _ => o))
  · exact zk_ite (i _ (by decide)) (fun _ => zk_ite (i _ (by decide)) (fun _ => o))
theorem m_isSign (c : Int32) (σ : zg_S) : zk (f_X7_isSign c σ) (fun r s => σ = s ∧ ((r = 0 ∧ ¬ (σ 0 17 = 3 ∧ σ 0 19 = c)) ∨ (r = 1 ∧ σ 0 17 = 3 ∧ σ 0 19 = c))) := by
  unfold f_X7_isSign
  refine zk_ite (fun h => zk_ite (fun h2 => zk_some ⟨rfl, Or.inr ⟨rfl, h, h2⟩⟩) (fun h2 => zk_some ⟨rfl, Or.inl ⟨rfl, fun z => h2 z.2⟩⟩)) (fun h => zk_some ⟨rfl, Or.inl ⟨rfl, fun z => h z.1⟩⟩)
/-- how many steps are laid, and where -/
def ml (σ : zg_S) : Nat := (σ 0 22).toNatClampNeg
def mb (σ : zg_S) : Nat := (σ 0 23).toNatClampNeg
def sB (σ : zg_S) : Prop := 0 ≤ (σ 0 22).toInt ∧ (σ 0 22).toInt ≤ 96 ∧ 51 ≤ (σ 0 23).toInt ∧ (σ 0 23).toInt ≤ 2847
theorem m_step (a1 a2 : Int32) (σ : zg_S) (hσ : IMc σ) (hb : sB σ) : zk (f_X7_step a1 a2 σ) (fun _ s => IMc s ∧ (∀ p, p ≠ 0 → p ≠ 1 → s p = σ p) ∧ (∀ k, k ≠ 22 → s 0 k = σ 0 k) ∧ s 0 22 = σ 0 22 + 1 ∧ s 1 (mb σ + 2 * ml σ) = a1 ∧ s 1 (mb σ + 2 * ml σ + 1) = a2 ∧ ∀ k, k ≠ mb σ + 2 * ml σ → k ≠ mb σ + 2 * ml σ + 1 → s 1 k = σ 1 k) := by
  obtain ⟨l0, l1, b0, b1⟩ := hb
  have e1 := zt_1
  have e2 := zt_2
  have nl := ztn l0
  have nb := ztn (i := σ 0 23) (by omega)
  unfold f_X7_step
  have p1 := zTadd (zTs (σ 0 23)) (zTmul (zTl zt_2) (zTs (σ 0 22)) (by omega) (by omega)) (by omega) (by omega)
  have i1 : ((σ 0 23) + (2 * (σ 0 22))).toNatClampNeg = mb σ + 2 * ml σ := zTn p1 (by unfold mb ml; omega)
  refine zk_in (zin_mkT p1 (by omega) (by omega)) ?_
  rw [i1]
  refine zk_let (fun s q => ?_)
  have hs : IMc s := by rw [q]; exact IMc.up hσ (zTs _) (mcon1 (by unfold mb ml; omega))
  have s22 : s 0 22 = σ 0 22 := by rw [q]; exact congrFun (zup_ne rfl) 22
  have s23 : s 0 23 = σ 0 23 := by rw [q]; exact congrFun (zup_ne rfl) 23
  rw [s22, s23]
  have p2 := zTadd p1 (zTl zt_1) (by omega) (by omega)
  have i2 : (((σ 0 23) + (2 * (σ 0 22))) + 1).toNatClampNeg = mb σ + 2 * ml σ + 1 := zTn p2 (by unfold mb ml; omega)
  refine zk_in (zin_mkT p2 (by omega) (by omega)) ?_
  rw [i2]
  refine zk_let (fun t q2 => ?_)
  have ht : IMc t := by rw [q2]; exact IMc.up hs (zTs _) (mcon1 (by unfold mb ml; omega))
  have t22 : t 0 22 = σ 0 22 := by rw [q2]; exact (congrFun (zup_ne rfl) 22).trans s22
  rw [t22]
  refine zk_let (fun u q3 => ?_)
  have u1 : u 1 = t 1 := by rw [q3]; exact zup_ne rfl
  refine zk_some ⟨by rw [q3]; exact IMc.up ht (zTs _) trivial, fun p h0 h1 => ?_, fun k hk => ?_, by rw [q3]; exact zgot, ?_, ?_, fun k h1 h2 => ?_⟩
  · rw [q3]
    refine (zg_row_ne h0).trans ?_
    rw [q2]
    refine (zg_row_ne h1).trans ?_
    rw [q]
    exact zg_row_ne h1
  · rw [q3]
    refine (zkeepn hk).trans ?_
    rw [q2]
    refine (congrFun (zup_ne rfl) k).trans ?_
    rw [q]
    exact congrFun (zup_ne rfl) k
  · rw [u1, q2]
    refine (zkeepn (by omega)).trans ?_
    rw [q]
    exact zgot
  · rw [u1, q2]
    exact zgot
  · rw [u1, q2]
    refine (zkeepn h2).trans ?_
    rw [q]
    exact zkeepn h1
theorem dep_s {f : Nat → Int32} {b k n d : Nat} : dep f b k (n + 1) d = if f (b + 2 * k) = 2 then (if f (b + 2 * k + 1) = 33 then (if 1 ≤ d then dep f b (k + 1) n d else none) else if 2 ≤ d then dep f b (k + 1) n (d - 1) else none) else if f (b + 2 * k) = 0 ∨ (0 ≤ (f (b + 2 * k + 1)).toInt ∧ (f (b + 2 * k + 1)).toInt < 128) then dep f b (k + 1) n (d + 1) else none := rfl
theorem dep_add (f : Nat → Int32) (b : Nat) : ∀ (n k m d e : Nat), dep f b k n d = some e → dep f b k (n + m) d = dep f b (k + n) m e := by
  intro n
  induction n with
  | zero =>
    intro k m d e h
    unfold dep at h
    rw [Nat.zero_add, Nat.add_zero]
    injection h with h
    rw [h]
  | succ n ih =>
    intro k m d e h
    rw [show n + 1 + m = (n + m) + 1 by omega, show k + (n + 1) = (k + 1) + n by omega]
    rw [dep_s] at h ⊢
    by_cases c1 : f (b + 2 * k) = 2
    · rw [if_pos c1] at h ⊢
      by_cases c2 : f (b + 2 * k + 1) = 33
      · rw [if_pos c2] at h ⊢
        by_cases c3 : 1 ≤ d
        · rw [if_pos c3] at h ⊢
          exact ih _ _ _ _ h
        · rw [if_neg c3] at h
          cases h
      · rw [if_neg c2] at h ⊢
        by_cases c3 : 2 ≤ d
        · rw [if_pos c3] at h ⊢
          exact ih _ _ _ _ h
        · rw [if_neg c3] at h
          cases h
    · rw [if_neg c1] at h ⊢
      by_cases c2 : f (b + 2 * k) = 0 ∨ (0 ≤ (f (b + 2 * k + 1)).toInt ∧ (f (b + 2 * k + 1)).toInt < 128)
      · rw [if_pos c2] at h ⊢
        exact ih _ _ _ _ h
      · rw [if_neg c2] at h
        cases h
/-- the reader's state between words -/
def PS (σ : zg_S) : Prop := IMc σ ∧ sB σ ∧ (σ 0 15).toInt ≤ (σ 0 16).toInt ∧ (σ 0 16).toInt ≤ (σ 0 14).toInt ∧ (σ 0 17 = 0 ∨ (σ 0 15).toInt < (σ 0 16).toInt) ∧ (σ 0 22).toInt ≤ (σ 0 15).toInt ∧ 0 ≤ (σ 0 20).toInt ∧ (σ 0 20).toInt ≤ 8 ∧ 0 ≤ (σ 0 21).toInt ∧ (σ 0 21).toInt ≤ 8
def mF (σ s : zg_S) : Prop := (∀ p, p ≠ 0 → p ≠ 1 → s p = σ p) ∧ (∀ k, (k < 15 ∨ k = 23 ∨ 24 < k) → s 0 k = σ 0 k) ∧ (∀ k, k < mb σ + 2 * ml σ → s 1 k = σ 1 k)
/-- what any reading leaves, good or not -/
def BD (σ s : zg_S) : Prop := IMc s ∧ mF σ s ∧ (σ 0 22).toInt ≤ (s 0 22).toInt ∧ (s 0 22).toInt ≤ 96 ∧ (s 0 15).toInt ≤ (s 0 14).toInt
/-- what a good one leaves -/
def GD (σ s : zg_S) : Prop := PS s ∧ mF σ s ∧ (σ 0 22).toInt ≤ (s 0 22).toInt ∧ (s 0 22).toInt - (σ 0 22).toInt ≤ (s 0 15).toInt - (σ 0 15).toInt ∧ (σ 0 15).toInt ≤ (s 0 15).toInt ∧ s 0 20 = σ 0 20 ∧ s 0 21 = σ 0 21 ∧ ∀ d, dep (s 1) (mb σ) (ml σ) (ml s - ml σ) d = some (d + 1)
def mQ (σ : zg_S) (r : Int32) (s : zg_S) : Prop := BD σ s ∧ (r = 0 ∨ (r = 1 ∧ GD σ s))
theorem GD.bd {σ s : zg_S} (h : GD σ s) : BD σ s := ⟨h.1.1, h.2.1, h.2.2.1, h.1.2.1.2.1, by have := h.1.2.2.1; have := h.1.2.2.2.1; omega⟩
theorem mb_eq {σ s : zg_S} (h : mF σ s) : mb s = mb σ := congrArg Int32.toNatClampNeg (h.2.1 23 (by decide))
theorem mF.tr {a b c : zg_S} (h1 : mF a b) (h2 : mF b c) (hl : ml a ≤ ml b) : mF a c := ⟨fun p h0 h1' => (h2.1 p h0 h1').trans (h1.1 p h0 h1'), fun k hk => (h2.2.1 k hk).trans (h1.2.1 k hk), fun k hk => (h2.2.2 k (by rw [mb_eq h1]; omega)).trans (h1.2.2 k hk)⟩
theorem ml_le {a b : zg_S} (h0 : 0 ≤ (a 0 22).toInt) (h : (a 0 22).toInt ≤ (b 0 22).toInt) : ml a ≤ ml b := by
  have h1 := ztn h0
  have h2 := ztn (i := b 0 22) (by omega)
  unfold ml
  omega
theorem BD.tr {a b c : zg_S} (h0 : 0 ≤ (a 0 22).toInt) (f : mF a b) (l : (a 0 22).toInt ≤ (b 0 22).toInt) (h : BD b c) : BD a c := ⟨h.1, f.tr h.2.1 (ml_le h0 l), Int.le_trans l h.2.2.1, h.2.2.2.1, h.2.2.2.2⟩
theorem tk.mF {σ s : zg_S} (h : tk σ s) : mF σ s := ⟨fun p h0 _ => h.1 p h0, fun k hk => h.2 k (by omega), fun k _ => congrFun (h.1 1 (by decide)) k⟩
/-- on to the next word -/
theorem nx {σ : zg_S} (h : PS σ) {P : Int32 → zg_S → Prop} {k : Int32 → zg_S → Option (Int32 × zg_S)} (hk : ∀ r s, PS s → tk σ s → NQ σ r s → (σ 0 16).toInt ≤ (s 0 15).toInt → zk (k r s) P) : zk (zbd (f_X7_nextToken σ) k) P := by
  obtain ⟨hσ, hb, h1, h2, h3, h4, h5, h6, h7, h8⟩ := h
  refine zk_call (s_X7_nextToken σ hσ h2) (fun r s hp => ?_)
  obtain ⟨hs, kt, n1, n2, n3, n4, n5⟩ := id hp
  refine hk r s ⟨hs, ?_, n2, by rw [kt.n]; exact n3, ?_, by rw [kt.2 22 (by decide)]; omega, by rw [kt.2 20 (by decide)]; exact h5, by rw [kt.2 20 (by decide)]; exact h6, by rw [kt.2 21 (by decide)]; exact h7, by rw [kt.2 21 (by decide)]; exact h8⟩ kt hp n1
  · unfold sB
    rw [kt.2 22 (by decide), kt.2 23 (by decide)]
    exact hb
  · rcases n5 with ⟨_, n5, _⟩ | ⟨n5, _⟩ | ⟨n5, _⟩ | ⟨n5, _⟩
    · exact Or.inl n5
    · exact Or.inr n5
    · exact Or.inr n5
    · exact Or.inr (by omega)
/-- a step that joins, or one that turns -/
theorem jn {σ s : zg_S} {c : Int32} (l0 : 0 ≤ (σ 0 22).toInt) (hs : PS s) (f : mF σ s) (l1 : (σ 0 22).toInt ≤ (s 0 22).toInt) (l2 : (s 0 22).toInt + 1 - (σ 0 22).toInt ≤ (s 0 15).toInt - (σ 0 15).toInt) (l3 : (σ 0 15).toInt ≤ (s 0 15).toInt) (l4 : (s 0 22).toInt + 1 ≤ (s 0 15).toInt) (k20 : s 0 20 = σ 0 20) (k21 : s 0 21 = σ 0 21) (hd : ∀ d, ∃ e, dep (s 1) (mb σ) (ml σ) (ml s - ml σ) d = some e ∧ ((c = 33 ∧ e = d + 1) ∨ (¬ c = 33 ∧ e = d + 2))) {P : Int32 → zg_S → Prop} {k : Int32 → zg_S → Option (Int32 × zg_S)} (hk : ∀ r t, GD σ t → (t 0 15) = (s 0 15) → zk (k r t) P) : zk (zbd (f_X7_step 2 c s) k) P := by
  obtain ⟨hs, hb, h1, h2, h3, h4, h5, h6, h7, h8⟩ := hs
  have e1 := zt_1
  have f15 : 0 ≤ (s 0 15).toInt ∧ (s 0 15).toInt ≤ 96 := hs 0 15
  obtain ⟨b1, b2, b3, b4⟩ := id hb
  have n1 := ztn l0
  have n2 := ztn b1
  refine zk_call (m_step 2 c s hs hb) (fun r t hp => ?_)
  obtain ⟨ht, p1, p2, p3, p4, p5, p6⟩ := hp
  have ea := zTe (zTadd (zTs (s 0 22)) (zTl zt_1) (by omega) (by omega))
  have t22 : (t 0 22).toInt = (s 0 22).toInt + 1 := by rw [p3]; exact ea
  have n3 := ztn (i := t 0 22) (by omega)
  have k : ∀ j, j ≠ 22 → t 0 j = s 0 j := p2
  have eb := mb_eq f
  have el : ml t = ml s + 1 := by unfold ml; omega
  have el2 : ml σ ≤ ml s := by unfold ml; omega
  have hF : mF s t := ⟨p1, fun j hj => p2 j (by omega), fun j hj => p6 j (by omega) (by omega)⟩
  refine hk r t ⟨⟨ht, ⟨by omega, by omega, by rw [k 23 (by decide)]; exact b3, by rw [k 23 (by decide)]; exact b4⟩, by rw [k 15 (by decide), k 16 (by decide)]; exact h1, by rw [k 16 (by decide), k 14 (by decide)]; exact h2, by rw [k 17 (by decide), k 15 (by decide), k 16 (by decide)]; exact h3, by rw [k 15 (by decide)]; omega, by rw [k 20 (by decide)]; exact h5, by rw [k 20 (by decide)]; exact h6, by rw [k 21 (by decide)]; exact h7, by rw [k 21 (by decide)]; exact h8⟩, f.tr hF el2, by omega, by rw [k 15 (by decide)]; omega, by rw [k 15 (by decide)]; exact l3, (k 20 (by decide)).trans k20, (k 21 (by decide)).trans k21, fun d => ?_⟩ (k 15 (by decide))
  obtain ⟨e, he, hc⟩ := hd d
  have hsame : dep (t 1) (mb σ) (ml σ) (ml s - ml σ) d = some e := (dep_eq _ _ _ (fun j j1 j2 => ⟨p6 _ (by rw [eb]; omega) (by rw [eb]; omega), p6 _ (by rw [eb]; omega) (by rw [eb]; omega)⟩)).trans he
  rw [show ml t - ml σ = (ml s - ml σ) + 1 by omega, dep_add _ _ _ _ _ _ _ hsame, show ml σ + (ml s - ml σ) = ml s by omega]
  rw [eb] at p4 p5
  unfold dep
  rw [p4, p5, if_pos rfl]
  rcases hc with ⟨rfl, rfl⟩ | ⟨hc, rfl⟩
  · rw [if_pos rfl, if_pos (by omega)]
    unfold dep
    rfl
  · rw [if_neg hc, if_pos (by omega)]
    unfold dep
    rfl
/-- a sign, one more piece, and the step that joins -/
theorem join {σ s : zg_S} {c z0 : Int32} {tag : Nat} {rec : Nat → Int32 → zg_S → Option (Int32 × zg_S)} {P : Int32 → zg_S → Prop} {k : Int32 → zg_S → Option (Int32 × zg_S)} (l0 : 0 ≤ (σ 0 22).toInt) (hG : GD σ s) (h3 : s 0 17 = 3) (hc : ¬ c = 33) (ih : ∀ t, PS t → t 0 20 = σ 0 20 → t 0 21 = σ 0 21 → zk (rec tag z0 t) (mQ t)) (h0 : ∀ t, BD σ t → P 0 t) (hk : ∀ r t, GD σ t → (s 0 15).toInt < (t 0 15).toInt → zk (k r t) P) : zk (zbd (f_X7_nextToken s) (fun _ s1 => zbd (rec tag z0 s1) (fun r s2 => if r = 0 then some (0, s2) else zbd (f_X7_step 2 c s2) k))) P := by
  obtain ⟨hs, f, l1, l2, l3, k20, k21, hd⟩ := hG
  refine nx hs (fun _ s1 p1 t1 q1 g1 => ?_)
  have hlt : (s 0 15).toInt < (s 0 16).toInt := hs.2.2.2.2.1.resolve_left (fun z => absurd (h3.symm.trans z) (by decide))
  have e22 : s1 0 22 = s 0 22 := t1.2 22 (by decide)
  have f1 : mF σ s1 := f.tr t1.mF (ml_le l0 l1)
  refine zk_call (ih s1 p1 ((t1.2 20 (by decide)).trans k20) ((t1.2 21 (by decide)).trans k21)) (fun r s2 hp => ?_)
  obtain ⟨hB, hr⟩ := hp
  refine zk_ite (fun _ => zk_some (h0 s2 (BD.tr l0 f1 (by rw [e22]; exact l1) hB))) (fun hn => ?_)
  obtain ⟨-, p2, f2, m1, m2, m3, m20, m21, hd2⟩ := hr.resolve_left hn
  have e1 : ml s1 = ml s := congrArg Int32.toNatClampNeg e22
  have b1 := mb_eq f1
  have g22 := congrArg Int32.toInt e22
  have hs22 := hs.2.2.2.2.2.1
  have l12 := ml_le l0 l1
  have l22 := ml_le (a := s1) (b := s2) (by omega) m1
  refine jn l0 p2 (f1.tr f2 (by rw [e1]; exact l12)) (by omega) (by omega) (by omega) (by omega) (m20.trans ((t1.2 20 (by decide)).trans k20)) (m21.trans ((t1.2 21 (by decide)).trans k21)) (fun d => ⟨d + 2, ?_, Or.inr ⟨hc, rfl⟩⟩) (fun r t hg ht => hk r t hg (by rw [ht]; omega))
  have es1 : s1 1 = s 1 := t1.1 1 (by decide)
  have a1 : dep (s2 1) (mb σ) (ml σ) (ml s - ml σ) d = some (d + 1) := (dep_eq _ _ _ (fun j j1 j2 => ⟨(f2.2.2 _ (by rw [b1, e1]; omega)).trans (congrFun es1 _), (f2.2.2 _ (by rw [b1, e1]; omega)).trans (congrFun es1 _)⟩)).trans (hd d)
  rw [show ml s2 - ml σ = (ml s - ml σ) + (ml s2 - ml s) by omega, dep_add _ _ _ _ _ _ _ a1, show ml σ + (ml s - ml σ) = ml s by omega]
  have a2 := hd2 (d + 1)
  rw [b1, e1] at a2
  exact a2
/-- a leaf -/
theorem lf {σ : zg_S} {w v : Int32} (h : PS σ) (h3 : ¬ σ 0 17 = 0) (hw : w = 0 ∨ (w = 1 ∧ 0 ≤ v.toInt ∧ v.toInt < 128)) {P : Int32 → zg_S → Prop} (hP : ∀ s, GD σ s → P 1 s) : zk (zbd (f_X7_step w v σ) (fun _ s => zlet (zg_up s 0 24 ((s 0 24) + 1)) (fun t => zbd (f_X7_nextToken t) (fun _ u => some (1, u))))) P := by
  obtain ⟨hσ, hb, h1, h2, h3', h4, h5, h6, h7, h8⟩ := h
  have e1 := zt_1
  have f15 : 0 ≤ (σ 0 15).toInt ∧ (σ 0 15).toInt ≤ 96 := hσ 0 15
  have f14 : 0 ≤ (σ 0 14).toInt ∧ (σ 0 14).toInt ≤ 96 := hσ 0 14
  have hlt := h3'.resolve_left h3
  obtain ⟨b1, b2, b3, b4⟩ := id hb
  have n1 := ztn b1
  refine zk_call (m_step w v σ hσ hb) (fun _ s hp => ?_)
  obtain ⟨hs, p1, p2, p3, p4, p5, p6⟩ := hp
  refine zk_let (fun t q => ?_)
  have ht : IMc t := by rw [q]; exact IMc.up hs (zTs _) trivial
  have kt : ∀ j, j ≠ 22 → j ≠ 24 → t 0 j = σ 0 j := fun j j1 j2 => by
    rw [q]
    exact (zkeepn j2).trans (p2 j j1)
  have rt : ∀ p, p ≠ 0 → t p = s p := fun p hp => by
    rw [q]
    exact zg_row_ne hp
  have t22e : t 0 22 = σ 0 22 + 1 := by rw [q]; exact (zkeepf rfl).trans p3
  have ea := zTe (zTadd (zTs (σ 0 22)) (zTl zt_1) (by omega) (by omega))
  have t22 : (t 0 22).toInt = (σ 0 22).toInt + 1 := by rw [t22e]; exact ea
  have n2 := ztn (i := t 0 22) (by omega)
  have t16 : (t 0 16).toInt ≤ (t 0 14).toInt := by rw [kt 16 (by decide) (by decide), kt 14 (by decide) (by decide)]; exact h2
  refine zk_call (s_X7_nextToken t ht t16) (fun r u hp => ?_)
  obtain ⟨hu, ku, n1', n2', n3', n4', n5'⟩ := hp
  rw [kt 16 (by decide) (by decide)] at n1'
  have u22 : u 0 22 = t 0 22 := ku.2 22 (by decide)
  have g22 := congrArg Int32.toInt u22
  have u23 : u 0 23 = σ 0 23 := (ku.2 23 (by decide)).trans (kt 23 (by decide) (by decide))
  have u20 : u 0 20 = σ 0 20 := (ku.2 20 (by decide)).trans (kt 20 (by decide) (by decide))
  have u21 : u 0 21 = σ 0 21 := (ku.2 21 (by decide)).trans (kt 21 (by decide) (by decide))
  have ur : u 1 = s 1 := (ku.1 1 (by decide)).trans (rt 1 (by decide))
  have el : ml u = ml σ + 1 := by unfold ml; rw [u22]; omega
  refine zk_some (hP u ⟨⟨hu, ⟨by omega, by omega, by rw [u23]; exact b3, by rw [u23]; exact b4⟩, n2', by rw [ku.n]; exact n3', ?_, by omega, by rw [u20]; exact h5, by rw [u20]; exact h6, by rw [u21]; exact h7, by rw [u21]; exact h8⟩, ⟨fun p j0 j1 => (ku.1 p j0).trans ((rt p j0).trans (p1 p j0 j1)), fun j hj => (ku.2 j (by omega)).trans (kt j (by omega) (by omega)), fun j hj => (congrFun ur j).trans (p6 j (by omega) (by omega))⟩, by omega, by omega, by omega, u20, u21, fun d => ?_⟩)
  · rcases n5' with ⟨_, n5, _⟩ | ⟨n5, _⟩ | ⟨n5, _⟩ | ⟨n5, _⟩
    · exact Or.inl n5
    · exact Or.inr n5
    · exact Or.inr n5
    · exact Or.inr (by omega)
  · rw [el, show ml σ + 1 - ml σ = 1 by omega, ur]
    unfold dep
    rw [p4, p5]
    rcases hw with rfl | ⟨rfl, hv⟩
    · rw [if_neg (by decide), if_pos (Or.inl rfl)]
      unfold dep
      rfl
    · rw [if_neg (by decide), if_pos (Or.inr hv)]
      unfold dep
      rfl
def mN (σ : zg_S) : Int := 8 * (8 - (σ 0 20).toInt) + 2 * (8 - (σ 0 21).toInt)
theorem mN_eq {σ s : zg_S} (h6 : s 0 20 = σ 0 20) (h7 : s 0 21 = σ 0 21) : mN s = mN σ := by unfold mN; rw [h6, h7]
theorem PS.n {σ : zg_S} (h : PS σ) : 0 ≤ mN σ := by
  obtain ⟨_, _, _, _, _, _, h5, h6, h7, h8⟩ := h
  unfold mN
  omega
