/-! best -/
theorem at7_3 : ∀ m : Fin 5, 3 * at7 (m.val + 1) = Int32.ofNat (3 ^ (m.val + 1)) ∧ (Int32.ofNat (3 ^ (m.val + 1))).toInt = ((3 ^ (m.val + 1) : Nat) : Int) ∧ 3 ^ (m.val + 1) ≤ 243 ∧ at7 (m.val + 1) * 3 = Int32.ofNat (3 ^ (m.val + 1)) := by decide +kernel
theorem r_leaves {a b : Int32} {τ s : zg_S} {g : Nat → Int32} (hs : s 1 = g) (hg : τ 1 = g) (kb : KB τ s) (o : gOK g) (hC : gC g) (hV : tvs g) (h9 : (g 2).toInt ≤ 9999) {A : Nat} (hA : 1 ≤ A ∧ A ≤ 5) : zk (L_X7_best_59 a b zfu (at7 A) (-1) 0 0 s) (fun r t => t 1 = g ∧ KB τ t ∧ ∃ y4 y5 : Int32, bsF (fun c => sLf g A c 4) (3 ^ A) y4 y5 ∧ r = if b = 0 then y4 else y5) := by
  have e0 := zt_0
  have e1 := zt_1
  obtain ⟨m, rfl⟩ : ∃ m, A = m + 1 := ⟨A - 1, by omega⟩
  obtain ⟨q1, q2, q3, _⟩ : 3 * at7 (m + 1) = Int32.ofNat (3 ^ (m + 1)) ∧ (Int32.ofNat (3 ^ (m + 1))).toInt = ((3 ^ (m + 1) : Nat) : Int) ∧ 3 ^ (m + 1) ≤ 243 ∧ at7 (m + 1) * 3 = Int32.ofNat (3 ^ (m + 1)) := at7_3 ⟨m, by omega⟩
  generalize hN : 3 ^ (m + 1) = N at q1 q2 q3 ⊢
  unfold L_X7_best_59
  refine zl_IIII (fun (y3 y4 y5 y6 : Int32) (t : zg_S) => y3 = at7 (m + 1) ∧ ∃ c : Nat, y6.toInt = c ∧ c ≤ N ∧ t 1 = g ∧ KB τ t ∧ ((c = 0 ∧ y4 = -1) ∨ (0 < c ∧ bsF (fun c => sLf g (m + 1) c 4) c y4 y5))) (fun (_ _ _ y6 : Int32) (_ : zg_S) => (244 - y6.toInt).toNat) ?_ zfu _ _ _ _ _ ⟨rfl, 0, e0, by omega, hs, kb, Or.inl ⟨rfl, rfl⟩⟩ (by unfold zfu; omega)
  intro rec y3 y4 y5 y6 t hI ih
  obtain ⟨rfl, c, hc, hcN, ht, htk, hb⟩ := hI
  have Np : 0 < N := by rw [← hN]; exact Nat.pow_pos (by decide)
  unfold B_X7_best_59
  rw [q1]
  refine zk_ite (fun h => ?_) (fun h => ?_)
  · have := zle h
    have : c = N := by omega
    subst this
    rcases hb with ⟨z, _⟩ | ⟨_, hb⟩
    · omega
    refine zk_ite (fun hz => zk_some ⟨ht, htk, y4, y5, hb, by rw [if_pos hz]⟩) (fun hz => zk_some ⟨ht, htk, y4, y5, hb, by rw [if_neg hz]⟩)
  · have gl := znle h
    have ex := zTe (zTadd (zTs y6) (zTl zt_1) (by omega) (by omega))
    have nx : ∀ (u : zg_S) (w4 w5 : Int32), u 1 = g → KB τ u → bsF (fun c => sLf g (m + 1) c 4) (c + 1) w4 w5 → zk (rec (at7 (m + 1)) w4 w5 (y6 + 1) u) (fun r t => t 1 = g ∧ KB τ t ∧ ∃ y4 y5 : Int32, bsF (fun c => sLf g (m + 1) c 4) N y4 y5 ∧ r = if b = 0 then y4 else y5) := fun u w4 w5 h1 h2 h3 => ih _ _ _ _ u ⟨rfl, c + 1, by rw [ex, hc]; rfl, by omega, h1, h2, Or.inr ⟨by omega, h3⟩⟩ (by show (244 - (y6 + 1).toInt).toNat < (244 - y6.toInt).toNat; rw [ex]; omega)
    refine r_leaf ht hg htk o hC hV h9 hA.2 (c := c) (by omega) hc (Nat.div_eq_of_lt (by omega)) (fun u u1 u2 => ?_)
    unfold B_X7_best_141 B_X7_best_149
    refine zk_ite (fun hz => nx u _ _ u1 u2 ?_) (fun hz => zk_ite (fun hz' => nx u _ _ u1 u2 ?_) (fun hz' => nx u _ _ u1 u2 ?_))
    · rcases hb with ⟨z, _⟩ | ⟨_, ⟨z, _⟩ | ⟨c', _, c2, _⟩⟩
      · subst z
        exact Or.inr ⟨0, by omega, hc, rfl, fun j hj => by omega, fun j hj => by rw [show j = 0 by omega]; exact Int.le_refl _⟩
      · omega
      · have := zlt hz
        omega
    · rcases hb with ⟨_, z⟩ | ⟨cp, hb⟩
      · exact absurd (by rw [z]; decide) hz
      · refine bsF_skip hb (by omega) (fun z => by omega) (fun j h1 h2 => ?_)
        rw [show j = c by omega]
        exact zle hz'
    · rcases hb with ⟨_, z⟩ | ⟨cp, hb⟩
      · exact absurd (by rw [z]; decide) hz
      · exact bsF_take (V := fun c => sLf g (m + 1) c 4) hb hc (znle hz')
theorem v_best {σ τ : zg_S} (h : RR σ τ) (a b : Int32) : z2 (f_X6_best a b σ) (f_X7_best a b τ) SM := by
  have e0 := zt_0
  have e1 := zt_1
  have e5 := zt_5
  obtain ⟨hE, hT, o, hC, h99⟩ := id h.1
  by_cases ca : (1 : Int32).toInt ≤ a.toInt ∧ a.toInt ≤ (5 : Int32).toInt
  · by_cases cb : (0 : Int32).toInt ≤ b.toInt ∧ b.toInt ≤ (1 : Int32).toInt
    · refine th h ?_ (w_X6_best a b σ) (fun p k z => by unfold W_X6_best at z; unfold sideC; omega)
      unfold f_X6_best f_X7_best
      refine z2_eL (c_within1 σ ca) (z2_nL one_ne (z2_eL (c_within1 σ cb) (z2_nL one_ne ?_)))
      refine z2_eR (r_isIn1 τ ca) (z2_nR one_ne (z2_eR (r_isIn1 τ cb) (z2_nR one_ne ?_)))
      obtain ⟨A, hA⟩ : ∃ A : Nat, a.toInt = A := ⟨a.toInt.toNat, by omega⟩
      have D : zk (L_X7_best_30 a b zfu 1 1 τ) (fun r t => t 1 = τ 1 ∧ KB τ t ∧ ∃ y4 y5 : Int32, bsF (fun c => sLf (τ 1) A c 4) (3 ^ A) y4 y5 ∧ r = if b = 0 then y4 else y5) := by
        unfold L_X7_best_30
        refine zl_II (fun (x y : Int32) (t : zg_S) => t = τ ∧ ∃ i : Nat, y.toInt = i ∧ 1 ≤ i ∧ i ≤ A ∧ x = at7 i) (fun (_ y : Int32) (_ : zg_S) => (6 - y.toInt).toNat) ?_ zfu _ _ _ ⟨rfl, 1, e1, by omega, by omega, rfl⟩ (by unfold zfu; omega)
        intro rec x y t hI ih
        obtain ⟨rfl, i, hi, i1, i2, rfl⟩ := hI
        unfold B_X7_best_30
        refine zk_ite (fun hz => ?_) (fun hz => ?_)
        · have := zle hz
          have : i = A := by omega
          subst this
          refine zk_call (r_by' t) (fun _ u hu => ?_)
          exact r_leaves hu.1 rfl hu.2 o hC hT.tv h99 ⟨i1, by omega⟩
        · have gl := znle hz
          obtain ⟨m, rfl⟩ : ∃ m, i = m + 1 := ⟨i - 1, by omega⟩
          obtain ⟨_, _, _, q4⟩ : 3 * at7 (m + 1) = Int32.ofNat (3 ^ (m + 1)) ∧ (Int32.ofNat (3 ^ (m + 1))).toInt = ((3 ^ (m + 1) : Nat) : Int) ∧ 3 ^ (m + 1) ≤ 243 ∧ at7 (m + 1) * 3 = Int32.ofNat (3 ^ (m + 1)) := at7_3 ⟨m, by omega⟩
          have ex := zTe (zTadd (zTs y) (zTl zt_1) (by omega) (by omega))
          exact ih _ (y + 1) t ⟨rfl, m + 1 + 1, by rw [ex, hi]; rfl, by omega, by omega, by rw [q4]; exact (if_neg (by omega)).symm⟩ (by show (6 - (y + 1).toInt).toNat < (6 - y.toInt).toNat; rw [ex]; omega)
      refine z2_lL (fun s1 q1 => z2_lL (fun s2 q2 => ?_))
      have f2 : ∀ p, p ≠ 0 → s2 p = σ p := fun p hp => by rw [q2, up_ne hp, q1, up_ne hp]
      have E2 : EQB s2 153 (τ 1) := hE.wr (by have := o.1.1; omega) (fun q k h1 h2 => by rw [f2 q (by omega)])
      have T2 : TXR s2 153 (τ 1) := hT.wr o.2.2.1.2 (fun k => by rw [f2 _ (by omega)]) (fun q k h1 h2 h3 => by rw [f2 q (by omega)])
      refine z2_cL (zk_w (c_takeOver (p := 81) E2 T2 o.1.1 o.2.2.1.2 (by decide) (by decide) (by decide)) (w_X0_takeOver 81 153 s2)) (fun _ s3 q3 => ?_)
      obtain ⟨⟨E3, T3⟩, w3⟩ := q3
      have k13 : s3 0 13 = 2147483647 := by
        rw [w3 0 13 (fun z => by unfold W_X0_takeOver at z; omega), q2]
        refine (zkeepn (by decide)).trans ?_
        rw [q1]
        exact zgot
      have C := th_ok o hC h99 hA (by omega) A 0 0 0 0 s3 8 (by omega) (by omega) e0 e0 (by decide) E3 T3 (by rw [Nat.zero_mul]; exact Or.inl ⟨rfl, k13⟩)
      refine z2_cL C (fun _ s4 q4 => ?_)
      rw [Nat.zero_add, Nat.one_mul] at q4
      obtain ⟨r', t, et, t1, t2, y4, y5, t3, t4⟩ := D
      obtain ⟨u1, u2⟩ := bsF_u (Nat.pow_pos (by decide)) q4.1 t3
      by_cases b0 : b = 0
      · rw [if_pos b0]
        exact ⟨_, s4, r', t, rfl, et, by rw [t4, if_pos b0]; exact u1, t1, t2⟩
      · rw [if_neg b0]
        exact ⟨_, s4, r', t, rfl, et, by rw [t4, if_neg b0]; exact u2, t1, t2⟩
    · refine th0 (r := -1000000001) h ?_ ?_
      · unfold f_X6_best
        rw [c_within1 σ ca, zbd_s, if_neg one_ne, c_within0 σ cb]
        rfl
      · unfold f_X7_best
        rw [r_isIn1 τ ca, zbd_s, if_neg one_ne, r_isIn0 τ cb]
        rfl
  · refine th0 (r := -1000000001) h ?_ ?_
    · unfold f_X6_best
      rw [c_within0 σ ca]
      rfl
    · unfold f_X7_best
      rw [r_isIn0 τ ca]
      rfl
