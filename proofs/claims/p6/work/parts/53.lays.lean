theorem zt_2847 : (2847 : Int32).toInt = 2847 := by decide
theorem zkeepn {σ : zg_S} {p k k' : Nat} {v : Int32} (h : k' ≠ k) : zg_up σ p k v p k' = σ p k' := by
  unfold zg_up
  rw [zg_row_eq]
  exact pk_un h
set_option maxHeartbeats 400000 in
theorem s_X7_setAside (q1 q2 : Nat) (σ : zg_S) (hσ : IMc σ) (h1 : 2847 ≤ mln q1) (h2 : 2847 ≤ mln q2) (hne : q1 ≠ q2) (hc : ∀ k v, mconI q1 k v → mconI q2 k v) : zk (f_X7_setAside q1 q2 σ) (fun _ s => IMc s ∧ (∀ k, k < 2847 → s q2 k = σ q1 k) ∧ (∀ k, 2847 ≤ k → s q2 k = σ q2 k) ∧ ∀ p, p ≠ q2 → s p = σ p) := by
  have e0 := zt_0
  have e9 := zt_2847
  have l1 : (ML).2.2 q1 = mln q1 := rfl
  have l2 : (ML).2.2 q2 = mln q2 := rfl
  unfold f_X7_setAside L_X7_setAside_2
  refine zl_I (fun (x : Int32) (s : zg_S) => IMc s ∧ (∀ k : Nat, (k : Int) < x.toInt → s q2 k = σ q1 k) ∧ (∀ k : Nat, x.toInt ≤ k → s q2 k = σ q2 k) ∧ (∀ p, p ≠ q2 → s p = σ p) ∧ 0 ≤ x.toInt ∧ x.toInt ≤ 2847) (fun (x : Int32) (_ : zg_S) => (2847 - x.toInt).toNat) ?_ zfu _ _ ⟨hσ, fun k hk => by omega, fun k _ => rfl, fun p _ => rfl, by omega, by omega⟩ (by unfold zfu; omega)
  intro rec x s hI ih
  obtain ⟨hs, ha, hb, hp, i1, i2⟩ := hI
  unfold B_X7_setAside_2
  refine zk_ite (fun h => ?_) (fun h => ?_)
  · have g := zle h
    exact zk_some ⟨hs, fun k hk => ha k (by omega), fun k hk => hb k (by omega), hp⟩
  · have g := znle h
    refine zk_in (zin_mk i1 (by rw [l1]; omega)) ?_
    refine zk_let (fun y ey => ?_)
    refine zk_in (zin_mk i1 (by rw [l2]; omega)) ?_
    refine zk_let (fun t q => ?_)
    have hn := ztn i1
    have ex := zTe (zTadd (zTs x) (zTl zt_1) (by omega) (by omega))
    refine ih (x + 1) t ⟨?_, ?_, ?_, ?_, ?_, ?_⟩ ?_
    · rw [q]
      exact IMc.up hs (zTs y) (hc _ _ (by rw [ey, hp q1 hne]; exact hσ q1 _))
    · intro k hk
      rw [ex] at hk
      rw [q]
      by_cases e : k = x.toNatClampNeg
      · subst e
        exact zgot.trans (by rw [ey, hp q1 hne])
      · exact (zkeepn e).trans (ha k (by omega))
    · intro k hk
      rw [ex] at hk
      rw [q]
      exact (zkeepn (by omega)).trans (hb k (by omega))
    · intro p' h'
      rw [q]
      exact (zg_row_ne h').trans (hp p' h')
    · rw [ex]; omega
    · rw [ex]; omega
    · show (2847 - (x + 1).toInt).toNat < (2847 - x.toInt).toNat
      rw [ex]
      omega
theorem mc_1_12 (k : Nat) (v : Int) (h : mconI 1 k v) : mconI 12 k v := h
theorem mc_12_1 (k : Nat) (v : Int) (h : mconI 12 k v) : mconI 1 k v := h
theorem mc_1_2 (k : Nat) (v : Int) (h : mconI 1 k v) : mconI 2 k v := h
theorem mc_1_3 (k : Nat) (v : Int) (h : mconI 1 k v) : mconI 3 k v := h
theorem mc_2_1 (k : Nat) (v : Int) (h : mconI 2 k v) : mconI 1 k v := h
theorem mc_3_1 (k : Nat) (v : Int) (h : mconI 3 k v) : mconI 1 k v := h
set_option maxHeartbeats 400000 in
theorem s_X7_laysBy (σ : zg_S) (hσ : IMc σ) : zk (f_X7_laysBy σ) (fun _ s => IMc s ∧ (∀ k, k < 47 → s 12 k = σ 1 k) ∧ ∀ p, p ≠ 12 → s p = σ p) := by
  have e0 := zt_0
  have e9 := zt_47
  unfold f_X7_laysBy L_X7_laysBy_2
  refine zl_I (fun (x : Int32) (s : zg_S) => IMc s ∧ (∀ k : Nat, (k : Int) < x.toInt → s 12 k = σ 1 k) ∧ (∀ p, p ≠ 12 → s p = σ p) ∧ 0 ≤ x.toInt ∧ x.toInt ≤ 47) (fun (x : Int32) (_ : zg_S) => (47 - x.toInt).toNat) ?_ zfu _ _ ⟨hσ, fun k hk => by omega, fun p _ => rfl, by omega, by omega⟩ (by unfold zfu; omega)
  intro rec x s hI ih
  obtain ⟨hs, ha, hp, i1, i2⟩ := hI
  unfold B_X7_laysBy_2
  refine zk_ite (fun h => ?_) (fun h => ?_)
  · have g := zle h
    exact zk_some ⟨hs, fun k hk => ha k (by omega), hp⟩
  · have g := znle h
    refine zk_in (zin_mk i1 (by omega)) ?_
    refine zk_in (zin_mk i1 (by omega)) ?_
    refine zk_let (fun t q => ?_)
    have hn := ztn i1
    have ex := zTe (zTadd (zTs x) (zTl zt_1) (by omega) (by omega))
    refine ih (x + 1) t ⟨?_, ?_, ?_, ?_, ?_⟩ ?_
    · rw [q]
      exact IMc.up hs (zTs _) (mc_1_12 _ _ (hs 1 _))
    · intro k hk
      rw [ex] at hk
      rw [q]
      by_cases e : k = x.toNatClampNeg
      · subst e
        exact zgot.trans (by rw [hp 1 (by decide)])
      · exact (zkeepn e).trans (ha k (by omega))
    · intro p' h'
      rw [q]
      exact (zg_row_ne h').trans (hp p' h')
    · rw [ex]; omega
    · rw [ex]; omega
    · show (47 - (x + 1).toInt).toNat < (47 - x.toInt).toNat
      rw [ex]
      omega
set_option maxHeartbeats 400000 in
theorem s_X7_laysBack (σ : zg_S) (hσ : IMc σ) : zk (f_X7_laysBack σ) (fun _ s => IMc s ∧ (∀ k, k < 47 → s 1 k = σ 12 k) ∧ (∀ k, 47 ≤ k → s 1 k = σ 1 k) ∧ ∀ p, p ≠ 1 → s p = σ p) := by
  have e0 := zt_0
  have e9 := zt_47
  unfold f_X7_laysBack L_X7_laysBack_2
  refine zl_I (fun (x : Int32) (s : zg_S) => IMc s ∧ (∀ k : Nat, (k : Int) < x.toInt → s 1 k = σ 12 k) ∧ (∀ k : Nat, x.toInt ≤ k → s 1 k = σ 1 k) ∧ (∀ p, p ≠ 1 → s p = σ p) ∧ 0 ≤ x.toInt ∧ x.toInt ≤ 47) (fun (x : Int32) (_ : zg_S) => (47 - x.toInt).toNat) ?_ zfu _ _ ⟨hσ, fun k hk => by omega, fun k _ => rfl, fun p _ => rfl, by omega, by omega⟩ (by unfold zfu; omega)
  intro rec x s hI ih
  obtain ⟨hs, ha, hb, hp, i1, i2⟩ := hI
  unfold B_X7_laysBack_2
  refine zk_ite (fun h => ?_) (fun h => ?_)
  · have g := zle h
    exact zk_some ⟨hs, fun k hk => ha k (by omega), fun k hk => hb k (by omega), hp⟩
  · have g := znle h
    refine zk_in (zin_mk i1 (by omega)) ?_
    refine zk_let (fun y ey => ?_)
    refine zk_in (zin_mk i1 (by omega)) ?_
    refine zk_let (fun t q => ?_)
    have hn := ztn i1
    have ex := zTe (zTadd (zTs x) (zTl zt_1) (by omega) (by omega))
    refine ih (x + 1) t ⟨?_, ?_, ?_, ?_, ?_, ?_⟩ ?_
    · rw [q]
      exact IMc.up hs (zTs y) (mc_12_1 _ _ (by rw [ey]; exact hs 12 _))
    · intro k hk
      rw [ex] at hk
      rw [q]
      by_cases e : k = x.toNatClampNeg
      · subst e
        exact zgot.trans (by rw [ey, hp 12 (by decide)])
      · exact (zkeepn e).trans (ha k (by omega))
    · intro k hk
      rw [ex] at hk
      rw [q]
      exact (zkeepn (by omega)).trans (hb k (by omega))
    · intro p' h'
      rw [q]
      exact (zg_row_ne h').trans (hp p' h')
    · rw [ex]; omega
    · rw [ex]; omega
    · show (47 - (x + 1).toInt).toNat < (47 - x.toInt).toNat
      rw [ex]
      omega
