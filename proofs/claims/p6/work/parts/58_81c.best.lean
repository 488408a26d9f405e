/-! best: the reference -/
theorem dgt : ∀ x : Fin 243, ∀ k : Fin 5, (Int32.ofNat x.val / Int32.ofNat (3 ^ k.val)) - (Int32.ofNat x.val / Int32.ofNat (3 ^ k.val)) / 3 * 3 = dg (x.val / 3 ^ k.val) := by decide +kernel
theorem d3t : ∀ k : Fin 4, Int32.ofNat (3 ^ (k.val + 1)) / 3 = Int32.ofNat (3 ^ k.val) := by decide +kernel
theorem ont : ∀ x : Fin 244, (Int32.ofNat x.val).toInt = x.val := by decide +kernel
theorem onE {x : Int32} {n : Nat} (h : x.toInt = n) (hn : n < 244) : x = Int32.ofNat n := Int32.toInt_inj.mp (by rw [h]; exact (ont ⟨n, hn⟩).symm)
/-- the digits that are still to go: x7 stands at 3 ^ (m - 1), or at 0 -/
def at7 (m : Nat) : Int32 := if m = 0 then 0 else Int32.ofNat (3 ^ (m - 1))
theorem at7_n : ∀ m : Fin 5, at7 (m.val + 1) / 3 = at7 m.val ∧ 0 < (at7 (m.val + 1)).toInt := by decide +kernel
theorem r_leaf {a b : Int32} {rec59 : Int32 → Int32 → Int32 → Int32 → zg_S → Option (Int32 × zg_S)} {τ s : zg_S} {g : Nat → Int32} (hs : s 1 = g) (hg : τ 1 = g) (kb : KB τ s) (o : gOK g) (hC : gC g) (hV : tvs g) (h9 : (g 2).toInt ≤ 9999) {A c : Nat} (hA : A ≤ 5) (hc : c < 243) {x3 x4 x5 x6 : Int32} (h6 : x6.toInt = c) {P : Int32 → zg_S → Prop} (hc0 : c / 3 ^ A = 0) (hk : ∀ t, t 1 = g → KB τ t → zk (if x4 < 0 then B_X7_best_141 a b rec59 x3 x6 (sLf g A c 4) t else (if x5 ≤ (sLf g A c 4) then B_X7_best_149 a b rec59 x3 x4 x5 x6 t else B_X7_best_141 a b rec59 x3 x6 (sLf g A c 4) t)) P) : zk (L_X7_best_70 a b rec59 zfu x3 x4 x5 x6 (at7 A) s) P := by
  have e0 := zt_0
  have ex6 := onE h6 (by omega)
  unfold L_X7_best_70
  refine zl_IIIII (fun (y3 y4 y5 y6 y7 : Int32) (t : zg_S) => y3 = x3 ∧ y4 = x4 ∧ y5 = x5 ∧ y6 = x6 ∧ ∃ m : Nat, m ≤ A ∧ y7 = at7 m ∧ t 1 = sLf g (A - m) (c / 3 ^ m) ∧ KB τ t) (fun (_ _ _ _ y7 : Int32) (_ : zg_S) => y7.toInt.toNat) ?_ zfu _ _ _ _ _ _ ⟨rfl, rfl, rfl, rfl, A, by omega, rfl, by rw [Nat.sub_self]; exact hs, kb⟩ ?_
  · intro rec y3 y4 y5 y6 y7 t hI ih
    obtain ⟨rfl, rfl, rfl, rfl, m, hm, rfl, ht, htk⟩ := hI
    unfold B_X7_best_70
    match m, hm, ht, ih with
    | 0, hm, ht, ih =>
      refine zk_ite (fun _ => ?_) (fun z => absurd (by decide) z)
      rw [Nat.sub_zero, Nat.pow_zero, Nat.div_one] at ht
      obtain ⟨_, _, _, st, _⟩ := sLf_ok o hC A c (by omega)
      refine zk_call (r_bk' htk (fun k hk' => by rw [ht, hg]; exact st.2 k hk')) (fun _ u hu => ?_)
      rw [ht]
      exact hk u (hu.1.trans hg) hu.2
    | m + 1, hm, ht, ih =>
      obtain ⟨q1, q2⟩ : at7 (m + 1) / 3 = at7 m ∧ 0 < (at7 (m + 1)).toInt := at7_n ⟨m, by omega⟩
      refine zk_ite (fun z => by have := zle z; omega) (fun _ => zk_ite (fun z => by have := zeq z; omega) (fun _ => zk_let (fun v ev => ?_)))
      have d1 := dgt ⟨c, hc⟩ ⟨m, by omega⟩
      rw [← ex6] at d1
      rw [show at7 (m + 1) = Int32.ofNat (3 ^ m) from if_neg (by omega), d1] at ev
      obtain ⟨y1, y2, y3', y4', _⟩ := sLf_ok o hC (A - (m + 1)) (c / 3 ^ (m + 1)) (by omega)
      have eq3 : c / 3 ^ m / 3 = c / 3 ^ (m + 1) := by rw [Nat.div_div_eq_div_mul, Nat.pow_succ]
      have go : zk (B_X7_best_105 a b rec y3 y4 y5 y6 (at7 (m + 1)) (sBv v) t) P := by
        unfold B_X7_best_105
        refine zk_call (zk_w (r_goesOnBy ht y1 (hV.st y4') v (by rw [ev]; exact dg_m _)) (w_X7_goesOnBy (sBv v) t)) (fun _ u hu => ?_)
        rw [q1]
        refine ih _ _ _ _ _ u ⟨rfl, rfl, rfl, rfl, m, by omega, rfl, ?_, htk.w hu.2 (fun p k z => by unfold W_X7_goesOnBy at z; omega)⟩ ?_
        · rw [hu.1, show A - m = (A - (m + 1)) + 1 by omega, ev]
          show _ = sHr (sLf g (A - (m + 1)) (c / 3 ^ m / 3)) (sTo (sLf g (A - (m + 1)) (c / 3 ^ m / 3)) (dg (c / 3 ^ m)))
          rw [eq3]
        · show (at7 m).toInt.toNat < (at7 (m + 1)).toInt.toNat
          have : ∀ m : Fin 5, (at7 m.val).toInt.toNat < (at7 (m.val + 1)).toInt.toNat := by decide +kernel
          exact this ⟨m, by omega⟩
      unfold sBv at go
      refine zk_ite (fun z => by rw [if_pos z] at go; exact go) (fun z => zk_ite (fun z' => by rw [if_neg z, if_pos z'] at go; exact go) (fun z' => by rw [if_neg z, if_neg z'] at go; exact go))
  · have : ∀ m : Fin 6, (at7 m.val).toInt.toNat < 100000 := by decide +kernel
    exact this ⟨A, by omega⟩
