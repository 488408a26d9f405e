/-! the two starts are alike -/
theorem RR0 {fd f : Nat → Nat → Int32} (h1 : ini1 fd) (h2 : ini2 f) : RR (x0 fd) (m0 f) := by
  have e0 := zt_0
  have e3 := zt_3
  have e10 := zt_10
  obtain ⟨_, _, _, _, _, _, _, _, _, _, _, _, _, _, _, _, _, _, d0, d1, d2, _⟩ := h1
  obtain ⟨g0, g1, g2, g3, g4, g5, g6, g7, g8, g9, g10, _, k0, k1, k2, k3⟩ := h2
  have m : m0 f 1 = f 1 := rfl
  have ct : ∀ key, cC (f 1) key = -1000000005 := fun key => by
    unfold cC sCt
    rw [g1]
    exact if_neg (by show ¬ (0 : Int32) ≤ -1; decide)
  refine ⟨?_, ⟨rfl, fun z => absurd rfl z⟩, ⟨rfl, fun i hi => rfl⟩, ⟨rfl, fun i hi => rfl⟩, fun k hk => ?_, fun j hj => ?_⟩
  · rw [m]
    refine ⟨⟨fun i hi => ?_, fun k j hk _ => ?_⟩, ⟨⟨?_, ?_, ?_⟩, fun t ht => ?_⟩, ⟨?_, fun k hk => ?_, ?_, fun t ht => ?_, fun t ht => ?_⟩, ?_, ?_⟩
    · match i, hi with
      | 0, _ => exact g0.symm
      | 1, _ => exact g1.symm
      | 2, _ => exact g2.symm
      | 3, _ => exact g3.symm
      | 4, _ => exact g4.symm
      | 5, _ => exact g5.symm
      | 6, _ => exact g6.symm
      | 7, _ => exact g7.symm
      | 8, _ => exact g8.symm
      | 9, _ => exact g9.symm
      | 10, _ => exact g10.symm
    · rw [g0] at hk
      omega
    · rw [ct]; exact d0
    · rw [ct]; exact d1
    · rw [ct]; exact d2
    · rw [g1] at ht
      omega
    · unfold gB
      rw [g0, g2, g7, g8, g9, g10]
      decide
    · rw [g0] at hk
      omega
    · rw [g1]
      decide
    · rw [g1] at ht
      omega
    · rw [g1] at ht
      omega
    · unfold gC
      rw [g2, g3, g4, g5]
      decide
    · rw [g2]
      decide
  · match k, hk with
    | 0, _ => exact ⟨k0.symm, rfl, fun i _ => rfl, Or.inl k0⟩
    | 1, _ => exact ⟨k1.symm, rfl, fun i _ => rfl, Or.inl k1⟩
    | 2, _ => exact ⟨k2.symm, rfl, fun i _ => rfl, Or.inl k2⟩
    | 3, _ => exact ⟨k3.symm, rfl, fun i _ => rfl, Or.inl k3⟩
  · match j, hj with
    | 0, _ => exact ⟨rfl, Or.inl rfl⟩
    | 1, _ => exact ⟨rfl, Or.inl rfl⟩
    | 2, _ => exact ⟨rfl, Or.inl rfl⟩
    | 3, _ => exact ⟨rfl, Or.inl rfl⟩
    | 4, _ => exact ⟨rfl, Or.inl rfl⟩
