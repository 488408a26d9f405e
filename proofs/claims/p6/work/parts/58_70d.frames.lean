theorem wB_X7_either_10 (σ0 : zg_S) (rec : Nat → Int32 → zg_S → Option (Int32 × zg_S)) (a1 : Int32) (rec10_ : zg_S → Option (Int32 × zg_S)) (s : zg_S) (hrec : ∀ (z0 : Nat) (z1 : Int32) (s : zg_S), wr (W_G_mp) σ0 s → zw (W_G_mp) σ0 (rec z0 z1 s)) (hrec10_ : ∀  (s : zg_S), wr (W_G_mp) σ0 s → zw (W_G_mp) σ0 (rec10_  s)) (hs : wr (W_G_mp) σ0 s) : zw (W_G_mp) σ0 (B_X7_either_10 rec a1 rec10_ s) := by
  unfold B_X7_either_10
  refine zw_call (w_X7_isSign 124 s) (fun p k h => False.elim h) hs (fun r1 σ2 hσ2 => ?_)
  refine zw_ite ?_ ?_
  · exact zw_some hσ2
  · refine zw_call (w_X7_nextToken σ2) (fun p k h => by unfold W_X7_nextToken at h; unfold W_G_mp; omega) hσ2 (fun r11 σ12 hσ12 => ?_)
    refine zw_rec (hrec 1 a1 σ12 hσ12) (fun r18 σ19 hσ19 => ?_)
    refine zw_ite ?_ ?_
    · exact zw_some hσ19
    · refine zw_call (w_X7_step 2 124 σ19) (fun p k h => by unfold W_X7_step at h; unfold W_G_mp; omega) hσ19 (fun r27 σ28 hσ28 => ?_)
      exact hrec10_ σ28 hσ28
theorem wL_X7_either_10 (σ0 : zg_S) (rec : Nat → Int32 → zg_S → Option (Int32 × zg_S)) (a1 : Int32) (n : Nat)  (s : zg_S) (hrec : ∀ (z0 : Nat) (z1 : Int32) (s : zg_S), wr (W_G_mp) σ0 s → zw (W_G_mp) σ0 (rec z0 z1 s)) (hs : wr (W_G_mp) σ0 s) : zw (W_G_mp) σ0 (L_X7_either_10 rec a1 n  s) := by
  unfold L_X7_either_10
  exact zwf_0 (fun r hr t ht => wB_X7_either_10 σ0 rec a1 r  t hrec hr ht) n  s hs
theorem w_X7_either (σ0 : zg_S) (rec : Nat → Int32 → zg_S → Option (Int32 × zg_S)) (a1 : Int32) (s : zg_S) (hrec : ∀ (z0 : Nat) (z1 : Int32) (s : zg_S), wr (W_G_mp) σ0 s → zw (W_G_mp) σ0 (rec z0 z1 s)) (hs : wr (W_G_mp) σ0 s) : zw (W_G_mp) σ0 (f_X7_either rec a1 s) := by
  unfold f_X7_either
  refine zw_rec (hrec 1 a1 s hs) (fun r35 σ36 hσ36 => ?_)
  refine zw_ite ?_ ?_
  · exact zw_some hσ36
  · exact wL_X7_either_10 σ0 rec a1 zfu σ36 hrec hσ36
theorem wB_X7_both_10 (σ0 : zg_S) (rec : Nat → Int32 → zg_S → Option (Int32 × zg_S)) (a1 : Int32) (rec10_ : zg_S → Option (Int32 × zg_S)) (s : zg_S) (hrec : ∀ (z0 : Nat) (z1 : Int32) (s : zg_S), wr (W_G_mp) σ0 s → zw (W_G_mp) σ0 (rec z0 z1 s)) (hrec10_ : ∀  (s : zg_S), wr (W_G_mp) σ0 s → zw (W_G_mp) σ0 (rec10_  s)) (hs : wr (W_G_mp) σ0 s) : zw (W_G_mp) σ0 (B_X7_both_10 rec a1 rec10_ s) := by
  unfold B_X7_both_10
  refine zw_call (w_X7_isSign 38 s) (fun p k h => False.elim h) hs (fun r1 σ2 hσ2 => ?_)
  refine zw_ite ?_ ?_
  · exact zw_some hσ2
  · refine zw_call (w_X7_nextToken σ2) (fun p k h => by unfold W_X7_nextToken at h; unfold W_G_mp; omega) hσ2 (fun r11 σ12 hσ12 => ?_)
    refine zw_rec (hrec 2 a1 σ12 hσ12) (fun r18 σ19 hσ19 => ?_)
    refine zw_ite ?_ ?_
    · exact zw_some hσ19
    · refine zw_call (w_X7_step 2 38 σ19) (fun p k h => by unfold W_X7_step at h; unfold W_G_mp; omega) hσ19 (fun r27 σ28 hσ28 => ?_)
      exact hrec10_ σ28 hσ28
theorem wL_X7_both_10 (σ0 : zg_S) (rec : Nat → Int32 → zg_S → Option (Int32 × zg_S)) (a1 : Int32) (n : Nat)  (s : zg_S) (hrec : ∀ (z0 : Nat) (z1 : Int32) (s : zg_S), wr (W_G_mp) σ0 s → zw (W_G_mp) σ0 (rec z0 z1 s)) (hs : wr (W_G_mp) σ0 s) : zw (W_G_mp) σ0 (L_X7_both_10 rec a1 n  s) := by
  unfold L_X7_both_10
  exact zwf_0 (fun r hr t ht => wB_X7_both_10 σ0 rec a1 r  t hrec hr ht) n  s hs
theorem w_X7_both (σ0 : zg_S) (rec : Nat → Int32 → zg_S → Option (Int32 × zg_S)) (a1 : Int32) (s : zg_S) (hrec : ∀ (z0 : Nat) (z1 : Int32) (s : zg_S), wr (W_G_mp) σ0 s → zw (W_G_mp) σ0 (rec z0 z1 s)) (hs : wr (W_G_mp) σ0 s) : zw (W_G_mp) σ0 (f_X7_both rec a1 s) := by
  unfold f_X7_both
  refine zw_rec (hrec 2 a1 s hs) (fun r35 σ36 hσ36 => ?_)
  refine zw_ite ?_ ?_
  · exact zw_some hσ36
  · exact wL_X7_both_10 σ0 rec a1 zfu σ36 hrec hσ36
theorem wB_X7_test_37 (σ0 : zg_S) (rec : Nat → Int32 → zg_S → Option (Int32 × zg_S)) (a1 : Int32) (s : zg_S) (hrec : ∀ (z0 : Nat) (z1 : Int32) (s : zg_S), wr (W_G_mp) σ0 s → zw (W_G_mp) σ0 (rec z0 z1 s)) (hs : wr (W_G_mp) σ0 s) : zw (W_G_mp) σ0 (B_X7_test_37 rec a1 s) := by
  unfold B_X7_test_37
  refine zw_call (w_X7_nextToken s) (fun p k h => by unfold W_X7_nextToken at h; unfold W_G_mp; omega) hs (fun r3 σ4 hσ4 => ?_)
  refine zw_rec (hrec 3 a1 σ4 hσ4) (fun r10 σ11 hσ11 => ?_)
  refine zw_ite ?_ ?_
  · exact zw_some hσ11
  · refine zw_call (w_X7_step 2 (s 0 19) σ11) (fun p k h => by unfold W_X7_step at h; unfold W_G_mp; omega) hσ11 (fun r19 σ20 hσ20 => ?_)
    exact zw_some hσ20
theorem w_X7_test (σ0 : zg_S) (rec : Nat → Int32 → zg_S → Option (Int32 × zg_S)) (a1 : Int32) (s : zg_S) (hrec : ∀ (z0 : Nat) (z1 : Int32) (s : zg_S), wr (W_G_mp) σ0 s → zw (W_G_mp) σ0 (rec z0 z1 s)) (hs : wr (W_G_mp) σ0 s) : zw (W_G_mp) σ0 (f_X7_test rec a1 s) := by
  unfold f_X7_test
  refine zw_rec (hrec 3 a1 s hs) (fun r27 σ28 hσ28 => ?_)
  refine zw_ite ?_ ?_
  · exact zw_some hσ28
  · refine zw_call (w_X7_isSign 60 σ28) (fun p k h => False.elim h) hσ28 (fun r36 σ37 hσ37 => ?_)
    refine zw_ite ?_ ?_
    · refine zw_call (w_X7_isSign 61 σ37) (fun p k h => False.elim h) hσ37 (fun r46 σ47 hσ47 => ?_)
      refine zw_ite ?_ ?_
      · refine zw_call (w_X7_isSign 62 σ47) (fun p k h => False.elim h) hσ47 (fun r56 σ57 hσ57 => ?_)
        refine zw_ite ?_ ?_
        · exact zw_some hσ57
        · exact wB_X7_test_37 σ0 rec a1 σ57 hrec hσ57
      · exact wB_X7_test_37 σ0 rec a1 σ47 hrec hσ47
    · exact wB_X7_test_37 σ0 rec a1 σ37 hrec hσ37
theorem wB_X7_sum_28 (σ0 : zg_S) (rec : Nat → Int32 → zg_S → Option (Int32 × zg_S)) (a1 : Int32) (rec10_ : zg_S → Option (Int32 × zg_S)) (s : zg_S) (hrec : ∀ (z0 : Nat) (z1 : Int32) (s : zg_S), wr (W_G_mp) σ0 s → zw (W_G_mp) σ0 (rec z0 z1 s)) (hrec10_ : ∀  (s : zg_S), wr (W_G_mp) σ0 s → zw (W_G_mp) σ0 (rec10_  s)) (hs : wr (W_G_mp) σ0 s) : zw (W_G_mp) σ0 (B_X7_sum_28 rec a1 rec10_ s) := by
  unfold B_X7_sum_28
  refine zw_call (w_X7_nextToken s) (fun p k h => by unfold W_X7_nextToken at h; unfold W_G_mp; omega) hs (fun r3 σ4 hσ4 => ?_)
  refine zw_rec (hrec 4 a1 σ4 hσ4) (fun r10 σ11 hσ11 => ?_)
  refine zw_ite ?_ ?_
  · exact zw_some hσ11
  · refine zw_call (w_X7_step 2 (s 0 19) σ11) (fun p k h => by unfold W_X7_step at h; unfold W_G_mp; omega) hσ11 (fun r19 σ20 hσ20 => ?_)
    exact hrec10_ σ20 hσ20
theorem wB_X7_sum_10 (σ0 : zg_S) (rec : Nat → Int32 → zg_S → Option (Int32 × zg_S)) (a1 : Int32) (rec10_ : zg_S → Option (Int32 × zg_S)) (s : zg_S) (hrec : ∀ (z0 : Nat) (z1 : Int32) (s : zg_S), wr (W_G_mp) σ0 s → zw (W_G_mp) σ0 (rec z0 z1 s)) (hrec10_ : ∀  (s : zg_S), wr (W_G_mp) σ0 s → zw (W_G_mp) σ0 (rec10_  s)) (hs : wr (W_G_mp) σ0 s) : zw (W_G_mp) σ0 (B_X7_sum_10 rec a1 rec10_ s) := by
  unfold B_X7_sum_10
  refine zw_call (w_X7_isSign 43 s) (fun p k h => False.elim h) hs (fun r27 σ28 hσ28 => ?_)
  refine zw_ite ?_ ?_
  · refine zw_call (w_X7_isSign 45 σ28) (fun p k h => False.elim h) hσ28 (fun r37 σ38 hσ38 => ?_)
    refine zw_ite ?_ ?_
    · exact zw_some hσ38
    · exact wB_X7_sum_28 σ0 rec a1 rec10_ σ38 hrec hrec10_ hσ38
  · exact wB_X7_sum_28 σ0 rec a1 rec10_ σ28 hrec hrec10_ hσ28
theorem wL_X7_sum_10 (σ0 : zg_S) (rec : Nat → Int32 → zg_S → Option (Int32 × zg_S)) (a1 : Int32) (n : Nat)  (s : zg_S) (hrec : ∀ (z0 : Nat) (z1 : Int32) (s : zg_S), wr (W_G_mp) σ0 s → zw (W_G_mp) σ0 (rec z0 z1 s)) (hs : wr (W_G_mp) σ0 s) : zw (W_G_mp) σ0 (L_X7_sum_10 rec a1 n  s) := by
  unfold L_X7_sum_10
  exact zwf_0 (fun r hr t ht => wB_X7_sum_10 σ0 rec a1 r  t hrec hr ht) n  s hs
theorem w_X7_sum (σ0 : zg_S) (rec : Nat → Int32 → zg_S → Option (Int32 × zg_S)) (a1 : Int32) (s : zg_S) (hrec : ∀ (z0 : Nat) (z1 : Int32) (s : zg_S), wr (W_G_mp) σ0 s → zw (W_G_mp) σ0 (rec z0 z1 s)) (hs : wr (W_G_mp) σ0 s) : zw (W_G_mp) σ0 (f_X7_sum rec a1 s) := by
  unfold f_X7_sum
  refine zw_rec (hrec 4 a1 s hs) (fun r47 σ48 hσ48 => ?_)
  refine zw_ite ?_ ?_
  · exact zw_some hσ48
  · exact wL_X7_sum_10 σ0 rec a1 zfu σ48 hrec hσ48
theorem wB_X7_term_28 (σ0 : zg_S) (rec : Nat → Int32 → zg_S → Option (Int32 × zg_S)) (a1 : Int32) (rec10_ : zg_S → Option (Int32 × zg_S)) (s : zg_S) (hrec : ∀ (z0 : Nat) (z1 : Int32) (s : zg_S), wr (W_G_mp) σ0 s → zw (W_G_mp) σ0 (rec z0 z1 s)) (hrec10_ : ∀  (s : zg_S), wr (W_G_mp) σ0 s → zw (W_G_mp) σ0 (rec10_  s)) (hs : wr (W_G_mp) σ0 s) : zw (W_G_mp) σ0 (B_X7_term_28 rec a1 rec10_ s) := by
  unfold B_X7_term_28
  refine zw_call (w_X7_nextToken s) (fun p k h => by unfold W_X7_nextToken at h; unfold W_G_mp; omega) hs (fun r3 σ4 hσ4 => ?_)
  refine zw_rec (hrec 5 a1 σ4 hσ4) (fun r10 σ11 hσ11 => ?_)
  refine zw_ite ?_ ?_
  · exact zw_some hσ11
  · refine zw_call (w_X7_step 2 (s 0 19) σ11) (fun p k h => by unfold W_X7_step at h; unfold W_G_mp; omega) hσ11 (fun r19 σ20 hσ20 => ?_)
    exact hrec10_ σ20 hσ20
theorem wB_X7_term_10 (σ0 : zg_S) (rec : Nat → Int32 → zg_S → Option (Int32 × zg_S)) (a1 : Int32) (rec10_ : zg_S → Option (Int32 × zg_S)) (s : zg_S) (hrec : ∀ (z0 : Nat) (z1 : Int32) (s : zg_S), wr (W_G_mp) σ0 s → zw (W_G_mp) σ0 (rec z0 z1 s)) (hrec10_ : ∀  (s : zg_S), wr (W_G_mp) σ0 s → zw (W_G_mp) σ0 (rec10_  s)) (hs : wr (W_G_mp) σ0 s) : zw (W_G_mp) σ0 (B_X7_term_10 rec a1 rec10_ s) := by
  unfold B_X7_term_10
  refine zw_call (w_X7_isSign 42 s) (fun p k h => False.elim h) hs (fun r27 σ28 hσ28 => ?_)
  refine zw_ite ?_ ?_
  · refine zw_call (w_X7_isSign 47 σ28) (fun p k h => False.elim h) hσ28 (fun r37 σ38 hσ38 => ?_)
    refine zw_ite ?_ ?_
    · exact zw_some hσ38
    · exact wB_X7_term_28 σ0 rec a1 rec10_ σ38 hrec hrec10_ hσ38
  · exact wB_X7_term_28 σ0 rec a1 rec10_ σ28 hrec hrec10_ hσ28
theorem wL_X7_term_10 (σ0 : zg_S) (rec : Nat → Int32 → zg_S → Option (Int32 × zg_S)) (a1 : Int32) (n : Nat)  (s : zg_S) (hrec : ∀ (z0 : Nat) (z1 : Int32) (s : zg_S), wr (W_G_mp) σ0 s → zw (W_G_mp) σ0 (rec z0 z1 s)) (hs : wr (W_G_mp) σ0 s) : zw (W_G_mp) σ0 (L_X7_term_10 rec a1 n  s) := by
  unfold L_X7_term_10
  exact zwf_0 (fun r hr t ht => wB_X7_term_10 σ0 rec a1 r  t hrec hr ht) n  s hs
theorem w_X7_term (σ0 : zg_S) (rec : Nat → Int32 → zg_S → Option (Int32 × zg_S)) (a1 : Int32) (s : zg_S) (hrec : ∀ (z0 : Nat) (z1 : Int32) (s : zg_S), wr (W_G_mp) σ0 s → zw (W_G_mp) σ0 (rec z0 z1 s)) (hs : wr (W_G_mp) σ0 s) : zw (W_G_mp) σ0 (f_X7_term rec a1 s) := by
  unfold f_X7_term
  refine zw_rec (hrec 5 a1 s hs) (fun r47 σ48 hσ48 => ?_)
  refine zw_ite ?_ ?_
  · exact zw_some hσ48
  · exact wL_X7_term_10 σ0 rec a1 zfu σ48 hrec hσ48
theorem wB_X7_part0_145 (σ0 : zg_S) (rec : Nat → Int32 → zg_S → Option (Int32 × zg_S)) (a1 : Int32) (s : zg_S) (hrec : ∀ (z0 : Nat) (z1 : Int32) (s : zg_S), wr (W_G_mp) σ0 s → zw (W_G_mp) σ0 (rec z0 z1 s)) (hs : wr (W_G_mp) σ0 s) : zw (W_G_mp) σ0 (B_X7_part0_145 rec a1 s) := by
  unfold B_X7_part0_145
  refine zw_call (w_X7_isSign 40 s) (fun p k h => False.elim h) hs (fun r1 σ2 hσ2 => ?_)
  refine zw_ite ?_ ?_
  · exact zw_some hσ2
  · refine zw_ite ?_ ?_
    · exact zw_some hσ2
    · refine zw_up (by unfold W_G_mp; omega) hσ2 (fun σ13 hσ13 => ?_)
      refine zw_call (w_X7_nextToken σ13) (fun p k h => by unfold W_X7_nextToken at h; unfold W_G_mp; omega) hσ13 (fun r19 σ20 hσ20 => ?_)
      refine zw_rec (hrec 0 a1 σ20 hσ20) (fun r26 σ27 hσ27 => ?_)
      refine zw_ite ?_ ?_
      · exact zw_some hσ27
      · refine zw_call (w_X7_isSign 41 σ27) (fun p k h => False.elim h) hσ27 (fun r36 σ37 hσ37 => ?_)
        refine zw_ite ?_ ?_
        · exact zw_some hσ37
        · refine zw_up (by unfold W_G_mp; omega) hσ37 (fun σ45 hσ45 => ?_)
          refine zw_call (w_X7_nextToken σ45) (fun p k h => by unfold W_X7_nextToken at h; unfold W_G_mp; omega) hσ45 (fun r51 σ52 hσ52 => ?_)
          exact zw_some hσ52
theorem wB_X7_part0_84 (σ0 : zg_S) (rec : Nat → Int32 → zg_S → Option (Int32 × zg_S)) (a1 : Int32) (s : zg_S) (hrec : ∀ (z0 : Nat) (z1 : Int32) (s : zg_S), wr (W_G_mp) σ0 s → zw (W_G_mp) σ0 (rec z0 z1 s)) (hs : wr (W_G_mp) σ0 s) : zw (W_G_mp) σ0 (B_X7_part0_84 rec a1 s) := by
  unfold B_X7_part0_84
  refine zw_call (w_X7_isSign 33 s) (fun p k h => False.elim h) hs (fun r60 σ61 hσ61 => ?_)
  refine zw_ite ?_ ?_
  · exact wB_X7_part0_145 σ0 rec a1 σ61 hrec hσ61
  · refine zw_ite ?_ ?_
    · exact wB_X7_part0_145 σ0 rec a1 σ61 hrec hσ61
    · refine zw_up (by unfold W_G_mp; omega) hσ61 (fun σ73 hσ73 => ?_)
      refine zw_call (w_X7_nextToken σ73) (fun p k h => by unfold W_X7_nextToken at h; unfold W_G_mp; omega) hσ73 (fun r79 σ80 hσ80 => ?_)
      refine zw_rec (hrec 5 a1 σ80 hσ80) (fun r86 σ87 hσ87 => ?_)
      refine zw_ite ?_ ?_
      · exact zw_some hσ87
      · refine zw_up (by unfold W_G_mp; omega) hσ87 (fun σ95 hσ95 => ?_)
        refine zw_call (w_X7_step 2 33 σ95) (fun p k h => by unfold W_X7_step at h; unfold W_G_mp; omega) hσ95 (fun r101 σ102 hσ102 => ?_)
        exact zw_some hσ102
theorem w_X7_part0 (σ0 : zg_S) (rec : Nat → Int32 → zg_S → Option (Int32 × zg_S)) (a1 : Int32) (s : zg_S) (hrec : ∀ (z0 : Nat) (z1 : Int32) (s : zg_S), wr (W_G_mp) σ0 s → zw (W_G_mp) σ0 (rec z0 z1 s)) (hs : wr (W_G_mp) σ0 s) : zw (W_G_mp) σ0 (f_X7_part0 rec a1 s) := by
  unfold f_X7_part0
  refine zw_ite ?_ ?_
  · refine zw_call (w_X7_step 0 (s 0 18) s) (fun p k h => by unfold W_X7_step at h; unfold W_G_mp; omega) hs (fun r148 σ149 hσ149 => ?_)
    refine zw_up (by unfold W_G_mp; omega) hσ149 (fun σ155 hσ155 => ?_)
    refine zw_call (w_X7_nextToken σ155) (fun p k h => by unfold W_X7_nextToken at h; unfold W_G_mp; omega) hσ155 (fun r161 σ162 hσ162 => ?_)
    exact zw_some hσ162
  · refine zw_ite ?_ ?_
    · refine zw_ite ?_ ?_
      · exact wB_X7_part0_84 σ0 rec a1 s hrec hs
      · refine zw_call (w_X7_isName a1 (s 0 19) s) (fun p k h => False.elim h) hs (fun r117 σ118 hσ118 => ?_)
        refine zw_ite ?_ ?_
        · exact wB_X7_part0_84 σ0 rec a1 σ118 hrec hσ118
        · refine zw_call (w_X7_step 1 (σ118 0 19) σ118) (fun p k h => by unfold W_X7_step at h; unfold W_G_mp; omega) hσ118 (fun r127 σ128 hσ128 => ?_)
          refine zw_up (by unfold W_G_mp; omega) hσ128 (fun σ134 hσ134 => ?_)
          refine zw_call (w_X7_nextToken σ134) (fun p k h => by unfold W_X7_nextToken at h; unfold W_G_mp; omega) hσ134 (fun r140 σ141 hσ141 => ?_)
          exact zw_some hσ141
    · exact wB_X7_part0_84 σ0 rec a1 s hrec hs
theorem wG_mp (σ0 : zg_S) : ∀ (d tag : Nat) (z0 : Int32) (s : zg_S), wr W_G_mp σ0 s → zw W_G_mp σ0 (G_mp d tag z0 s) := by
  intro d
  induction d with
  | zero => intro tag z0 s _; exact zw_none
  | succ d ih =>
    intro tag z0 s hs
    match tag with
    | 0 => exact w_X7_either σ0 (G_mp d) z0 s ih hs
    | 1 => exact w_X7_both σ0 (G_mp d) z0 s ih hs
    | 2 => exact w_X7_test σ0 (G_mp d) z0 s ih hs
    | 3 => exact w_X7_sum σ0 (G_mp d) z0 s ih hs
    | 4 => exact w_X7_term σ0 (G_mp d) z0 s ih hs
    | n + 5 => exact w_X7_part0 σ0 (G_mp d) z0 s ih hs
theorem w_G_mp (d tag : Nat) (z0 : Int32) (σ0 : zg_S) : zw W_G_mp σ0 (G_mp d tag z0 σ0) := wG_mp σ0 d tag z0 σ0 wr.rf
theorem wB_X7_check_189 (σ0 : zg_S) (a1 : Int32) (x4 : Int32) (s : zg_S) (hs : wr (W_X7_check) σ0 s) : zw (W_X7_check) σ0 (B_X7_check_189 a1 x4 s) := by
  unfold B_X7_check_189
  exact zw_some hs
theorem wB_X7_check_173 (σ0 : zg_S) (a1 : Int32) (x2 : Int32) (x3 : Int32) (x4 : Int32) (s : zg_S) (hs : wr (W_X7_check) σ0 s) : zw (W_X7_check) σ0 (B_X7_check_173 a1 x2 x3 x4 s) := by
  unfold B_X7_check_173
  refine zw_ite ?_ ?_
  · refine zw_ite ?_ ?_
    · exact zw_some hs
    · exact wB_X7_check_189 σ0 a1 x4 s  hs
  · exact wB_X7_check_189 σ0 a1 x4 s  hs
theorem wB_X7_check_138 (σ0 : zg_S) (a1 : Int32) (rec138_ : Int32 → Int32 → Int32 → zg_S → Option (Int32 × zg_S)) (x2 : Int32) (x3 : Int32) (x4 : Int32) (s : zg_S) (hrec138_ : ∀ (z0 : Int32) (z1 : Int32) (z2 : Int32) (s : zg_S), wr (W_X7_check) σ0 s → zw (W_X7_check) σ0 (rec138_ z0 z1 z2 s)) (hs : wr (W_X7_check) σ0 s) : zw (W_X7_check) σ0 (B_X7_check_138 a1 rec138_ x2 x3 x4 s) := by
  unfold B_X7_check_138
  refine zw_ite ?_ ?_
  · exact wB_X7_check_173 σ0 a1 x2 x3 x4 s  hs
  · refine zw_ite ?_ ?_
    · exact wB_X7_check_173 σ0 a1 x2 x3 x4 s  hs
    · refine zw_in (fun z1 => ?_)
      refine zw_ite ?_ ?_
      · exact hrec138_ x2 x3 (x4 + 1) s hs
      · exact wB_X7_check_173 σ0 a1 x2 x3 x4 s  hs
theorem wL_X7_check_138 (σ0 : zg_S) (a1 : Int32) (n : Nat) (x2 : Int32) (x3 : Int32) (x4 : Int32) (s : zg_S) (hs : wr (W_X7_check) σ0 s) : zw (W_X7_check) σ0 (L_X7_check_138 a1 n x2 x3 x4 s) := by
  unfold L_X7_check_138
  exact zwf_III (fun r hr x2 x3 x4 t ht => wB_X7_check_138 σ0 a1 r x2 x3 x4 t hr ht) n x2 x3 x4 s hs
theorem wB_X7_check_123 (σ0 : zg_S) (a1 : Int32) (x2 : Int32) (x3 : Int32) (s : zg_S) (hs : wr (W_X7_check) σ0 s) : zw (W_X7_check) σ0 (B_X7_check_123 a1 x2 x3 s) := by
  unfold B_X7_check_123
  refine zw_call (w_X7_setAside 3 1 s) (fun p k h => by unfold W_X7_setAside at h; unfold W_X7_check; omega) hs (fun r21 σ22 hσ22 => ?_)
  exact wL_X7_check_138 σ0 a1 zfu x2 x3 0 σ22  hσ22
theorem wB_X7_check_65 (σ0 : zg_S) (a1 : Int32) (rec65_ : Int32 → Int32 → Int32 → zg_S → Option (Int32 × zg_S)) (x2 : Int32) (x3 : Int32) (x4 : Int32) (s : zg_S) (hrec65_ : ∀ (z0 : Int32) (z1 : Int32) (z2 : Int32) (s : zg_S), wr (W_X7_check) σ0 s → zw (W_X7_check) σ0 (rec65_ z0 z1 z2 s)) (hs : wr (W_X7_check) σ0 s) : zw (W_X7_check) σ0 (B_X7_check_65 a1 rec65_ x2 x3 x4 s) := by
  unfold B_X7_check_65
  refine zw_ite ?_ ?_
  · exact wB_X7_check_123 σ0 a1 x2 x3 s  hs
  · refine zw_ite ?_ ?_
    · exact wB_X7_check_123 σ0 a1 x2 x3 s  hs
    · refine zw_call (w_X7_goesOn s) (fun p k h => by unfold W_X7_goesOn at h; unfold W_X7_check; omega) hs (fun r36 σ37 hσ37 => ?_)
      refine zw_in (fun z1 => ?_)
      refine zw_up (by unfold W_X7_check; omega) hσ37 (fun σ46 hσ46 => ?_)
      refine zw_in (fun z2 => ?_)
      refine zw_up (by unfold W_X7_check; omega) hσ46 (fun σ55 hσ55 => ?_)
      exact hrec65_ x2 (x3 + 2) (x4 + 1) σ55 hσ55
theorem wL_X7_check_65 (σ0 : zg_S) (a1 : Int32) (n : Nat) (x2 : Int32) (x3 : Int32) (x4 : Int32) (s : zg_S) (hs : wr (W_X7_check) σ0 s) : zw (W_X7_check) σ0 (L_X7_check_65 a1 n x2 x3 x4 s) := by
  unfold L_X7_check_65
  exact zwf_III (fun r hr x2 x3 x4 t ht => wB_X7_check_65 σ0 a1 r x2 x3 x4 t hr ht) n x2 x3 x4 s hs
theorem w_X7_check (a1 : Int32) (σ0 : zg_S) : zw (W_X7_check) σ0 (f_X7_check a1 σ0) := by
  unfold f_X7_check
  refine zw_up (by unfold W_X7_check; omega) wr.rf (fun σ67 hσ67 => ?_)
  refine zw_call (w_X7_isIn (Int32.toInt64 a1) (Int32.toInt64 1) (Int32.toInt64 30) σ67) (fun p k h => False.elim h) hσ67 (fun r73 σ74 hσ74 => ?_)
  refine zw_ite ?_ ?_
  · exact zw_some hσ74
  · refine zw_ite ?_ ?_
    · exact zw_some hσ74
    · refine zw_call (w_X7_setAside 1 3 σ74) (fun p k h => by unfold W_X7_setAside at h; unfold W_X7_check; omega) hσ74 (fun r84 σ85 hσ85 => ?_)
      refine zw_call (w_X7_setAside 2 1 σ85) (fun p k h => by unfold W_X7_setAside at h; unfold W_X7_check; omega) hσ85 (fun r91 σ92 hσ92 => ?_)
      exact wL_X7_check_65 σ0 a1 zfu (σ0 0 29) 0 0 σ92  hσ92
theorem wB_X7_firstShaded_15 (σ0 : zg_S) (y0 : Int32) (s : zg_S) (hs : wr (W_X7_firstShaded) σ0 s) : zw (W_X7_firstShaded) σ0 (B_X7_firstShaded_15 y0 s) := by
  unfold B_X7_firstShaded_15
  refine zw_ite ?_ ?_
  · exact zw_some hs
  · refine zw_call (w_X7_shadeFrom s) (fun p k h => False.elim h) hs (fun r6 σ7 hσ7 => ?_)
    refine zw_ite ?_ ?_
    · exact zw_some hσ7
    · exact zw_some hσ7
theorem w_X7_firstShaded  (σ0 : zg_S) : zw (W_X7_firstShaded) σ0 (f_X7_firstShaded  σ0) := by
  unfold f_X7_firstShaded
  refine zw_call (w_X7_shadeFrom σ0) (fun p k h => False.elim h) wr.rf (fun r16 σ17 hσ17 => ?_)
  refine zw_ite ?_ ?_
  · refine zw_call (w_X7_shadeFrom σ17) (fun p k h => False.elim h) hσ17 (fun r25 σ26 hσ26 => ?_)
    exact wB_X7_firstShaded_15 σ0 r25 σ26  hσ26
  · exact wB_X7_firstShaded_15 σ0 0 σ17  hσ17
theorem w_X7_orNone (a0 : Int32) (σ0 : zg_S) : zw (W_X7_orNone) σ0 (f_X7_orNone a0 σ0) := by
  unfold f_X7_orNone
  refine zw_ite ?_ ?_
  · exact zw_some wr.rf
  · exact zw_some wr.rf
theorem wB_X7_shadedSet_30 (σ0 : zg_S) (rec4_ : Int32 → Int32 → zg_S → Option (Int32 × zg_S)) (x2 : Int32) (y0 : Int32) (y1 : Int32) (s : zg_S) (hrec4_ : ∀ (z0 : Int32) (z1 : Int32) (s : zg_S), wr (W_X7_shadedSet) σ0 s → zw (W_X7_shadedSet) σ0 (rec4_ z0 z1 s)) (hs : wr (W_X7_shadedSet) σ0 s) : zw (W_X7_shadedSet) σ0 (B_X7_shadedSet_30 rec4_ x2 y0 y1 s) := by
  unfold B_X7_shadedSet_30
  exact hrec4_ (y1 ||| y0) (x2 + 1) s hs
theorem wB_X7_shadedSet_4 (σ0 : zg_S) (rec4_ : Int32 → Int32 → zg_S → Option (Int32 × zg_S)) (x1 : Int32) (x2 : Int32) (s : zg_S) (hrec4_ : ∀ (z0 : Int32) (z1 : Int32) (s : zg_S), wr (W_X7_shadedSet) σ0 s → zw (W_X7_shadedSet) σ0 (rec4_ z0 z1 s)) (hs : wr (W_X7_shadedSet) σ0 s) : zw (W_X7_shadedSet) σ0 (B_X7_shadedSet_4 rec4_ x1 x2 s) := by
  unfold B_X7_shadedSet_4
  refine zw_ite ?_ ?_
  · exact zw_some hs
  · refine zw_call (w_X7_isShaded x2 s) (fun p k h => False.elim h) hs (fun r8 σ9 hσ9 => ?_)
    refine zw_ite ?_ ?_
    · exact wB_X7_shadedSet_30 σ0 rec4_ x2 0 x1 σ9 hrec4_ hσ9
    · exact wB_X7_shadedSet_30 σ0 rec4_ x2 (1 <<< (x2 &&& 31)) x1 σ9 hrec4_ hσ9
theorem wL_X7_shadedSet_4 (σ0 : zg_S)  (n : Nat) (x1 : Int32) (x2 : Int32) (s : zg_S) (hs : wr (W_X7_shadedSet) σ0 s) : zw (W_X7_shadedSet) σ0 (L_X7_shadedSet_4  n x1 x2 s) := by
  unfold L_X7_shadedSet_4
  exact zwf_II (fun r hr x1 x2 t ht => wB_X7_shadedSet_4 σ0  r x1 x2 t hr ht) n x1 x2 s hs
theorem w_X7_shadedSet  (σ0 : zg_S) : zw (W_X7_shadedSet) σ0 (f_X7_shadedSet  σ0) := by
  unfold f_X7_shadedSet
  exact wL_X7_shadedSet_4 σ0 zfu 0 0 σ0  wr.rf
theorem wB_X7_cloth_44 (σ0 : zg_S) (a1 : Int32) (s : zg_S) (hs : wr (W_X7_cloth) σ0 s) : zw (W_X7_cloth) σ0 (B_X7_cloth_44 a1 s) := by
  unfold B_X7_cloth_44
  refine zw_in (fun z1 => ?_)
  exact zw_some hs
theorem w_X7_cloth (a1 : Int32) (σ0 : zg_S) : zw (W_X7_cloth) σ0 (f_X7_cloth a1 σ0) := by
  unfold f_X7_cloth
  refine zw_ite ?_ ?_
  · exact wB_X7_cloth_44 σ0 a1 σ0  wr.rf
  · refine zw_ite ?_ ?_
    · exact wB_X7_cloth_44 σ0 a1 σ0  wr.rf
    · refine zw_ite ?_ ?_
      · exact wB_X7_cloth_44 σ0 a1 σ0  wr.rf
      · refine zw_ite ?_ ?_
        · exact wB_X7_cloth_44 σ0 a1 σ0  wr.rf
        · refine zw_ite ?_ ?_
          · refine zw_call (w_X7_heat σ0) (fun p k h => False.elim h) wr.rf (fun r18 σ19 hσ19 => ?_)
            exact zw_some hσ19
          · refine zw_ite ?_ ?_
            · refine zw_call (w_X7_firstShaded σ0) (fun p k h => False.elim h) wr.rf (fun r28 σ29 hσ29 => ?_)
              refine zw_call (w_X7_orNone r28 σ29) (fun p k h => False.elim h) hσ29 (fun r35 σ36 hσ36 => ?_)
              exact zw_some hσ36
            · refine zw_ite ?_ ?_
              · refine zw_call (w_X7_shadedSet σ0) (fun p k h => False.elim h) wr.rf (fun r45 σ46 hσ46 => ?_)
                exact zw_some hσ46
              · exact zw_some wr.rf
theorem w_X7_comes (a1 : Int32) (a2 : Int32) (a3 : Int32) (σ0 : zg_S) : zw (W_X7_comes) σ0 (f_X7_comes a1 a2 a3 σ0) := by
  unfold f_X7_comes
  refine zw_up (by unfold W_X7_comes; omega) wr.rf (fun σ3 hσ3 => ?_)
  refine zw_call (w_X7_sets (σ0 1 0) 0 a1 σ3) (fun p k h => by unfold W_X7_sets at h; unfold W_X7_comes; omega) hσ3 (fun r9 σ10 hσ10 => ?_)
  refine zw_call (w_X7_sets (σ0 1 0) 1 a2 σ10) (fun p k h => by unfold W_X7_sets at h; unfold W_X7_comes; omega) hσ10 (fun r16 σ17 hσ17 => ?_)
  refine zw_call (w_X7_sets (σ0 1 0) 2 100 σ17) (fun p k h => by unfold W_X7_sets at h; unfold W_X7_comes; omega) hσ17 (fun r23 σ24 hσ24 => ?_)
  refine zw_call (w_X7_sets (σ0 1 0) 3 a3 σ24) (fun p k h => by unfold W_X7_sets at h; unfold W_X7_comes; omega) hσ24 (fun r30 σ31 hσ31 => ?_)
  exact zw_some hσ31
theorem w_X7_isSheet (a0 : Int32) (σ0 : zg_S) : zw (W_X7_isSheet) σ0 (f_X7_isSheet a0 σ0) := by
  unfold f_X7_isSheet
  refine zw_call (w_X7_isIn (Int32.toInt64 a0) (Int32.toInt64 0) (Int32.toInt64 3) σ0) (fun p k h => False.elim h) wr.rf (fun r1 σ2 hσ2 => ?_)
  refine zw_ite ?_ zw_none
  exact zw_some hσ2
theorem wB_X7_copy_150 (σ0 : zg_S) (a1 : Int32) (a2 : Int32) (a3 : Int32) (a4 : Int32) (a5 : Int32) (rec150_ : Int32 → zg_S → Option (Int32 × zg_S)) (x6 : Int32) (s : zg_S) (hrec150_ : ∀ (z0 : Int32) (s : zg_S), wr (W_X7_copy) σ0 s → zw (W_X7_copy) σ0 (rec150_ z0 s)) (hs : wr (W_X7_copy) σ0 s) : zw (W_X7_copy) σ0 (B_X7_copy_150 a1 a2 a3 a4 a5 rec150_ x6 s) := by
  unfold B_X7_copy_150
  refine zw_ite ?_ ?_
  · exact zw_some hs
  · refine zw_in (fun z1 => ?_)
    refine zw_let (fun y7 => ?_)
    refine zw_in (fun z2 => ?_)
    refine zw_up (by unfold W_X7_copy; omega) hs (fun σ13 hσ13 => ?_)
    exact hrec150_ (x6 + 1) σ13 hσ13
theorem wL_X7_copy_150 (σ0 : zg_S) (a1 : Int32) (a2 : Int32) (a3 : Int32) (a4 : Int32) (a5 : Int32) (n : Nat) (x6 : Int32) (s : zg_S) (hs : wr (W_X7_copy) σ0 s) : zw (W_X7_copy) σ0 (L_X7_copy_150 a1 a2 a3 a4 a5 n x6 s) := by
  unfold L_X7_copy_150
  exact zwf_I (fun r hr x6 t ht => wB_X7_copy_150 σ0 a1 a2 a3 a4 a5 r x6 t hr ht) n x6 s hs
theorem wB_X7_copy_113 (σ0 : zg_S) (a1 : Int32) (a2 : Int32) (a3 : Int32) (a4 : Int32) (a5 : Int32) (rec113_ : Int32 → zg_S → Option (Int32 × zg_S)) (x6 : Int32) (s : zg_S) (hrec113_ : ∀ (z0 : Int32) (s : zg_S), wr (W_X7_copy) σ0 s → zw (W_X7_copy) σ0 (rec113_ z0 s)) (hs : wr (W_X7_copy) σ0 s) : zw (W_X7_copy) σ0 (B_X7_copy_113 a1 a2 a3 a4 a5 rec113_ x6 s) := by
  unfold B_X7_copy_113
  refine zw_ite ?_ ?_
  · exact wL_X7_copy_150 σ0 a1 a2 a3 a4 a5 zfu 0 s  hs
  · refine zw_in (fun z1 => ?_)
    refine zw_let (fun y29 => ?_)
    refine zw_in (fun z2 => ?_)
    refine zw_up (by unfold W_X7_copy; omega) hs (fun σ35 hσ35 => ?_)
    exact hrec113_ (x6 + 1) σ35 hσ35
theorem wL_X7_copy_113 (σ0 : zg_S) (a1 : Int32) (a2 : Int32) (a3 : Int32) (a4 : Int32) (a5 : Int32) (n : Nat) (x6 : Int32) (s : zg_S) (hs : wr (W_X7_copy) σ0 s) : zw (W_X7_copy) σ0 (L_X7_copy_113 a1 a2 a3 a4 a5 n x6 s) := by
  unfold L_X7_copy_113
  exact zwf_I (fun r hr x6 t ht => wB_X7_copy_113 σ0 a1 a2 a3 a4 a5 r x6 t hr ht) n x6 s hs
theorem w_X7_copy (a1 : Int32) (a2 : Int32) (a3 : Int32) (a4 : Int32) (a5 : Int32) (σ0 : zg_S) : zw (W_X7_copy) σ0 (f_X7_copy a1 a2 a3 a4 a5 σ0) := by
  unfold f_X7_copy
  refine zw_call (w_X7_isSheet a1 σ0) (fun p k h => False.elim h) wr.rf (fun r43 σ44 hσ44 => ?_)
  refine zw_ite ?_ ?_
  · exact zw_some hσ44
  · refine zw_call (w_X7_isSheet a3 σ44) (fun p k h => False.elim h) hσ44 (fun r53 σ54 hσ54 => ?_)
    refine zw_ite ?_ ?_
    · exact zw_some hσ54
    · refine zw_in (fun z1 => ?_)
      refine zw_ite ?_ ?_
      · exact zw_some hσ54
      · refine zw_in (fun z2 => ?_)
        refine zw_ite ?_ ?_
        · refine zw_ite ?_ ?_
          · refine zw_ite ?_ ?_
            · exact zw_some hσ54
            · refine zw_ite ?_ ?_
              · exact zw_some hσ54
              · refine zw_ite ?_ ?_
                · exact zw_some hσ54
                · refine zw_ite ?_ ?_
                  · exact zw_some hσ54
                  · refine zw_ite ?_ ?_
                    · exact wL_X7_copy_113 σ0 a1 a2 a3 a4 a5 zfu 0 σ54  hσ54
                    · exact zw_some hσ54
          · exact zw_some hσ54
        · exact zw_some hσ54
theorem wB_X7_manyShaded_7 (σ0 : zg_S) (rec7_ : Int32 → Int32 → zg_S → Option (Int32 × zg_S)) (x1 : Int32) (x2 : Int32) (s : zg_S) (hrec7_ : ∀ (z0 : Int32) (z1 : Int32) (s : zg_S), wr (W_X7_manyShaded) σ0 s → zw (W_X7_manyShaded) σ0 (rec7_ z0 z1 s)) (hs : wr (W_X7_manyShaded) σ0 s) : zw (W_X7_manyShaded) σ0 (B_X7_manyShaded_7 rec7_ x1 x2 s) := by
  unfold B_X7_manyShaded_7
  refine zw_ite ?_ ?_
  · exact zw_some hs
  · exact hrec7_ (x1 + 1) (x2 &&& (x2 - 1)) s hs
theorem wL_X7_manyShaded_7 (σ0 : zg_S)  (n : Nat) (x1 : Int32) (x2 : Int32) (s : zg_S) (hs : wr (W_X7_manyShaded) σ0 s) : zw (W_X7_manyShaded) σ0 (L_X7_manyShaded_7  n x1 x2 s) := by
  unfold L_X7_manyShaded_7
  exact zwf_II (fun r hr x1 x2 t ht => wB_X7_manyShaded_7 σ0  r x1 x2 t hr ht) n x1 x2 s hs
theorem w_X7_manyShaded  (σ0 : zg_S) : zw (W_X7_manyShaded) σ0 (f_X7_manyShaded  σ0) := by
  unfold f_X7_manyShaded
  refine zw_call (w_X7_shadedSet σ0) (fun p k h => False.elim h) wr.rf (fun r10 σ11 hσ11 => ?_)
  exact wL_X7_manyShaded_7 σ0 zfu 0 r10 σ11  hσ11
theorem w_X7_count (a1 : Int32) (σ0 : zg_S) : zw (W_X7_count) σ0 (f_X7_count a1 σ0) := by
  unfold f_X7_count
  refine zw_ite ?_ ?_
  · exact zw_some wr.rf
  · refine zw_ite ?_ ?_
    · exact zw_some wr.rf
    · refine zw_ite ?_ ?_
      · refine zw_call (w_X7_manyShaded σ0) (fun p k h => False.elim h) wr.rf (fun r9 σ10 hσ10 => ?_)
        exact zw_some hσ10
      · refine zw_ite ?_ ?_
        · exact zw_some wr.rf
        · refine zw_ite ?_ ?_
          · exact zw_some wr.rf
          · refine zw_ite ?_ ?_
            · exact zw_some wr.rf
            · refine zw_ite ?_ ?_
              · exact zw_some wr.rf
              · exact zw_some wr.rf
theorem wB_X7_deal_17 (σ0 : zg_S) (a1 : Int32) (rec17_ : Int32 → zg_S → Option (Int32 × zg_S)) (x2 : Int32) (s : zg_S) (hrec17_ : ∀ (z0 : Int32) (s : zg_S), wr (W_X7_deal) σ0 s → zw (W_X7_deal) σ0 (rec17_ z0 s)) (hs : wr (W_X7_deal) σ0 s) : zw (W_X7_deal) σ0 (B_X7_deal_17 a1 rec17_ x2 s) := by
  unfold B_X7_deal_17
  refine zw_ite ?_ ?_
  · exact zw_some hs
  · refine zw_ite ?_ ?_
    · exact zw_some hs
    · refine zw_call (w_X7_drawn s) (fun p k h => by unfold W_X7_drawn at h; unfold W_X7_deal; omega) hs (fun r7 σ8 hσ8 => ?_)
      refine zw_call (w_X7_drawn σ8) (fun p k h => by unfold W_X7_drawn at h; unfold W_X7_deal; omega) hσ8 (fun r16 σ17 hσ17 => ?_)
      refine zw_call (w_X7_drawn σ17) (fun p k h => by unfold W_X7_drawn at h; unfold W_X7_deal; omega) hσ17 (fun r25 σ26 hσ26 => ?_)
      refine zw_call (w_X7_comes (r7 - r7 / 6 * 6) (r16 - r16 / 12 * 12) (r25 - r25 / 40 * 40) σ26) (fun p k h => by unfold W_X7_comes at h; unfold W_X7_deal; omega) hσ26 (fun r32 σ33 hσ33 => ?_)
      exact hrec17_ (x2 + 1) σ33 hσ33
theorem wL_X7_deal_17 (σ0 : zg_S) (a1 : Int32) (n : Nat) (x2 : Int32) (s : zg_S) (hs : wr (W_X7_deal) σ0 s) : zw (W_X7_deal) σ0 (L_X7_deal_17 a1 n x2 s) := by
  unfold L_X7_deal_17
  exact zwf_I (fun r hr x2 t ht => wB_X7_deal_17 σ0 a1 r x2 t hr ht) n x2 s hs
theorem w_X7_deal (a1 : Int32) (σ0 : zg_S) : zw (W_X7_deal) σ0 (f_X7_deal a1 σ0) := by
  unfold f_X7_deal
  refine zw_call (w_X7_isIn (Int32.toInt64 a1) (Int32.toInt64 1) (Int32.toInt64 9) σ0) (fun p k h => False.elim h) wr.rf (fun r41 σ42 hσ42 => ?_)
  refine zw_ite ?_ ?_
  · exact zw_some hσ42
  · exact wL_X7_deal_17 σ0 a1 zfu 0 σ42  hσ42
theorem w_X7_fee  (σ0 : zg_S) : zw (W_X7_fee) σ0 (f_X7_fee  σ0) := by
  unfold f_X7_fee
  refine zw_call (w_X7_counts 1 σ0) (fun p k h => False.elim h) wr.rf (fun r1 σ2 hσ2 => ?_)
  refine zw_ite ?_ ?_
  · refine zw_up (by unfold W_X7_fee; omega) hσ2 (fun σ12 hσ12 => ?_)
    refine zw_up (by unfold W_X7_fee; omega) hσ12 (fun σ18 hσ18 => ?_)
    refine zw_call (w_X7_worked r1 σ18) (fun p k h => by unfold W_X7_worked at h; unfold W_X7_fee; omega) hσ18 (fun r24 σ25 hσ25 => ?_)
    exact zw_some hσ25
  · exact zw_some hσ2
theorem wB_X7_feed_47 (σ0 : zg_S) (a1 : Int32) (a2 : Int32) (a3 : Int32) (rec18_ : Int32 → zg_S → Option (Int32 × zg_S)) (x4 : Int32) (y0 : Int32) (s : zg_S) (hrec18_ : ∀ (z0 : Int32) (s : zg_S), wr (W_X7_feed) σ0 s → zw (W_X7_feed) σ0 (rec18_ z0 s)) (hs : wr (W_X7_feed) σ0 s) : zw (W_X7_feed) σ0 (B_X7_feed_47 a1 a2 a3 rec18_ x4 y0 s) := by
  unfold B_X7_feed_47
  refine zw_let (fun y3 => ?_)
  refine zw_in (fun z1 => ?_)
  refine zw_up (by unfold W_X7_feed; omega) hs (fun σ9 hσ9 => ?_)
  refine zw_up (by unfold W_X7_feed; omega) hσ9 (fun σ15 hσ15 => ?_)
  exact hrec18_ (x4 + 1) σ15 hσ15
theorem wB_X7_feed_18 (σ0 : zg_S) (a1 : Int32) (a2 : Int32) (a3 : Int32) (rec18_ : Int32 → zg_S → Option (Int32 × zg_S)) (x4 : Int32) (s : zg_S) (hrec18_ : ∀ (z0 : Int32) (s : zg_S), wr (W_X7_feed) σ0 s → zw (W_X7_feed) σ0 (rec18_ z0 s)) (hs : wr (W_X7_feed) σ0 s) : zw (W_X7_feed) σ0 (B_X7_feed_18 a1 a2 a3 rec18_ x4 s) := by
  unfold B_X7_feed_18
  refine zw_ite ?_ ?_
  · exact zw_some hs
  · refine zw_ite ?_ ?_
    · refine zw_ite ?_ ?_
      · exact wB_X7_feed_47 σ0 a1 a2 a3 rec18_ x4 a3 s hrec18_ hs
      · exact wB_X7_feed_47 σ0 a1 a2 a3 rec18_ x4 a2 s hrec18_ hs
    · exact wB_X7_feed_47 σ0 a1 a2 a3 rec18_ x4 a1 s hrec18_ hs
theorem wL_X7_feed_18 (σ0 : zg_S) (a1 : Int32) (a2 : Int32) (a3 : Int32) (n : Nat) (x4 : Int32) (s : zg_S) (hs : wr (W_X7_feed) σ0 s) : zw (W_X7_feed) σ0 (L_X7_feed_18 a1 a2 a3 n x4 s) := by
  unfold L_X7_feed_18
  exact zwf_I (fun r hr x4 t ht => wB_X7_feed_18 σ0 a1 a2 a3 r x4 t hr ht) n x4 s hs
theorem w_X7_feed (a1 : Int32) (a2 : Int32) (a3 : Int32) (σ0 : zg_S) : zw (W_X7_feed) σ0 (f_X7_feed a1 a2 a3 σ0) := by
  unfold f_X7_feed
  refine zw_ite ?_ ?_
  · exact wL_X7_feed_18 σ0 a1 a2 a3 zfu 0 σ0  wr.rf
  · exact zw_some wr.rf
theorem wB_X7_fine_60 (σ0 : zg_S) (a1 : Int32) (x2 : Int32) (y0 : Int32) (y1 : Int32) (s : zg_S) (hs : wr (W_X7_fine) σ0 s) : zw (W_X7_fine) σ0 (B_X7_fine_60 a1 x2 y0 y1 s) := by
  unfold B_X7_fine_60
  refine zw_in (fun z1 => ?_)
  refine zw_up (by unfold W_X7_fine; omega) hs (fun σ4 hσ4 => ?_)
  refine zw_call (w_X7_worked x2 σ4) (fun p k h => by unfold W_X7_worked at h; unfold W_X7_fine; omega) hσ4 (fun r10 σ11 hσ11 => ?_)
  exact zw_some hσ11
theorem w_X7_fine (a1 : Int32) (σ0 : zg_S) : zw (W_X7_fine) σ0 (f_X7_fine a1 σ0) := by
  unfold f_X7_fine
  refine zw_call (w_X7_isStall a1 σ0) (fun p k h => False.elim h) wr.rf (fun r17 σ18 hσ18 => ?_)
  refine zw_ite ?_ ?_
  · exact zw_some hσ18
  · refine zw_call (w_X7_counts 2 σ18) (fun p k h => False.elim h) hσ18 (fun r26 σ27 hσ27 => ?_)
    refine zw_ite ?_ ?_
    · refine zw_call (w_X7_of a1 2 σ27) (fun p k h => False.elim h) hσ27 (fun r37 σ38 hσ38 => ?_)
      refine zw_up (by unfold W_X7_fine; omega) hσ38 (fun σ44 hσ44 => ?_)
      refine zw_call (w_X7_isShaded a1 σ44) (fun p k h => False.elim h) hσ44 (fun r50 σ51 hσ51 => ?_)
      refine zw_ite ?_ ?_
      · exact wB_X7_fine_60 σ0 a1 r26 0 115 σ51  hσ51
      · exact wB_X7_fine_60 σ0 a1 r26 1 115 σ51  hσ51
    · refine zw_call (w_X7_of a1 2 σ27) (fun p k h => False.elim h) hσ27 (fun r61 σ62 hσ62 => ?_)
      exact zw_some hσ62
theorem w_X7_goods (a1 : Int32) (a2 : Int32) (σ0 : zg_S) : zw (W_X7_goods) σ0 (f_X7_goods a1 a2 σ0) := by
  unfold f_X7_goods
  refine zw_call (w_X7_isStall a1 σ0) (fun p k h => False.elim h) wr.rf (fun r1 σ2 hσ2 => ?_)
  refine zw_ite ?_ ?_
  · exact zw_some hσ2
  · refine zw_call (w_X7_isIn (Int32.toInt64 a2) (Int32.toInt64 0) (Int32.toInt64 100) σ2) (fun p k h => False.elim h) hσ2 (fun r11 σ12 hσ12 => ?_)
    refine zw_ite ?_ ?_
    · exact zw_some hσ12
    · refine zw_call (w_X7_laysBy σ12) (fun p k h => by unfold W_X7_laysBy at h; unfold W_X7_goods; omega) hσ12 (fun r20 σ21 hσ21 => ?_)
      refine zw_call (w_X7_goesOnMany a2 σ21) (fun p k h => by unfold W_X7_goesOnMany at h; unfold W_X7_goods; omega) hσ21 (fun r27 σ28 hσ28 => ?_)
      refine zw_call (w_X7_of a1 2 σ28) (fun p k h => False.elim h) hσ28 (fun r34 σ35 hσ35 => ?_)
      refine zw_call (w_X7_laysBack σ35) (fun p k h => by unfold W_X7_laysBack at h; unfold W_X7_goods; omega) hσ35 (fun r43 σ44 hσ44 => ?_)
      exact zw_some hσ44
theorem wB_X7_hours_51 (σ0 : zg_S) (a1 : Int32) (x2 : Int32) (s : zg_S) (hs : wr (W_X7_hours) σ0 s) : zw (W_X7_hours) σ0 (B_X7_hours_51 a1 x2 s) := by
  unfold B_X7_hours_51
  exact zw_some hs
theorem wB_X7_hours_24 (σ0 : zg_S) (a1 : Int32) (rec24_ : Int32 → Int32 → zg_S → Option (Int32 × zg_S)) (x2 : Int32) (x3 : Int32) (s : zg_S) (hrec24_ : ∀ (z0 : Int32) (z1 : Int32) (s : zg_S), wr (W_X7_hours) σ0 s → zw (W_X7_hours) σ0 (rec24_ z0 z1 s)) (hs : wr (W_X7_hours) σ0 s) : zw (W_X7_hours) σ0 (B_X7_hours_24 a1 rec24_ x2 x3 s) := by
  unfold B_X7_hours_24
  refine zw_ite ?_ ?_
  · exact wB_X7_hours_51 σ0 a1 x2 s  hs
  · refine zw_ite ?_ ?_
    · exact wB_X7_hours_51 σ0 a1 x2 s  hs
    · refine zw_call (w_X7_goesOn s) (fun p k h => by unfold W_X7_goesOn at h; unfold W_X7_hours; omega) hs (fun r7 σ8 hσ8 => ?_)
      exact hrec24_ x2 (x3 + 1) σ8 hσ8
theorem wL_X7_hours_24 (σ0 : zg_S) (a1 : Int32) (n : Nat) (x2 : Int32) (x3 : Int32) (s : zg_S) (hs : wr (W_X7_hours) σ0 s) : zw (W_X7_hours) σ0 (L_X7_hours_24 a1 n x2 x3 s) := by
  unfold L_X7_hours_24
  exact zwf_II (fun r hr x2 x3 t ht => wB_X7_hours_24 σ0 a1 r x2 x3 t hr ht) n x2 x3 s hs
theorem w_X7_hours (a1 : Int32) (σ0 : zg_S) : zw (W_X7_hours) σ0 (f_X7_hours a1 σ0) := by
  unfold f_X7_hours
  refine zw_call (w_X7_isIn (Int32.toInt64 a1) (Int32.toInt64 1) (Int32.toInt64 100) σ0) (fun p k h => False.elim h) wr.rf (fun r16 σ17 hσ17 => ?_)
  refine zw_ite ?_ ?_
  · exact zw_some hσ17
  · exact wL_X7_hours_24 σ0 a1 zfu (σ17 1 4) 0 σ17  hσ17
theorem w_X7_isText (a1 : Int32) (σ0 : zg_S) : zw (W_X7_isText) σ0 (f_X7_isText a1 σ0) := by
  unfold f_X7_isText
  refine zw_call (w_X7_isIn (Int32.toInt64 a1) (Int32.toInt64 0) (Int32.toInt64 ((σ0 1 1) - 1)) σ0) (fun p k h => False.elim h) wr.rf (fun r1 σ2 hσ2 => ?_)
  refine zw_ite ?_ zw_none
  exact zw_some hσ2
theorem wB_X7_isWordAt_10 (σ0 : zg_S) (a1 : Int32) (a2 : Int32) (a3 : Int32) (a4 : Int32) (y0 : Int32) (s : zg_S) (hs : wr (W_X7_isWordAt) σ0 s) : zw (W_X7_isWordAt) σ0 (B_X7_isWordAt_10 a1 a2 a3 a4 y0 s) := by
  unfold B_X7_isWordAt_10
  refine zw_ite ?_ ?_
  · refine zw_ite ?_ ?_
    · refine zw_in (fun z1 => ?_)
      refine zw_ite ?_ ?_
      · refine zw_in (fun z2 => ?_)
        refine zw_ite ?_ ?_
        · refine zw_in (fun z3 => ?_)
          refine zw_ite ?_ ?_
          · refine zw_ite ?_ ?_
            · exact zw_some hs
            · refine zw_in (fun z4 => ?_)
              refine zw_ite ?_ ?_
              · exact zw_some hs
              · exact zw_some hs
          · exact zw_some hs
        · exact zw_some hs
      · exact zw_some hs
    · exact zw_some hs
  · exact zw_some hs
theorem w_X7_isWordAt (a1 : Int32) (a2 : Int32) (a3 : Int32) (a4 : Int32) (σ0 : zg_S) : zw (W_X7_isWordAt) σ0 (f_X7_isWordAt a1 a2 a3 a4 σ0) := by
  unfold f_X7_isWordAt
  refine zw_ite ?_ ?_
  · exact wB_X7_isWordAt_10 σ0 a1 a2 a3 a4 3 σ0  wr.rf
  · exact wB_X7_isWordAt_10 σ0 a1 a2 a3 a4 4 σ0  wr.rf
theorem w_X7_item (a1 : Int32) (a2 : Int32) (σ0 : zg_S) : zw (W_X7_item) σ0 (f_X7_item a1 a2 σ0) := by
  unfold f_X7_item
  refine zw_call (w_X7_isSlot a1 σ0) (fun p k h => False.elim h) wr.rf (fun r1 σ2 hσ2 => ?_)
  refine zw_ite ?_ ?_
  · exact zw_some hσ2
  · refine zw_in (fun z1 => ?_)
    refine zw_ite ?_ ?_
    · refine zw_call (w_X7_isIn (Int32.toInt64 a2) (Int32.toInt64 0) (Int32.toInt64 ((σ2 10 (Int32.toNatClampNeg a1)) - 1)) σ2) (fun p k h => False.elim h) hσ2 (fun r15 σ16 hσ16 => ?_)
      refine zw_ite ?_ ?_
      · exact zw_some hσ16
      · refine zw_in (fun z2 => ?_)
        refine zw_let (fun y27 => ?_)
        refine zw_ite ?_ ?_
        · exact zw_some hσ16
        · exact zw_some hσ16
    · refine zw_ite ?_ ?_
      · exact zw_some hσ2
      · exact zw_some hσ2
theorem w_X7_keep  (σ0 : zg_S) : zw (W_X7_keep) σ0 (f_X7_keep  σ0) := by
  unfold f_X7_keep
  refine zw_up (by unfold W_X7_keep; omega) wr.rf (fun σ1 hσ1 => ?_)
  refine zw_call (w_X7_setAside 1 2 σ1) (fun p k h => by unfold W_X7_setAside at h; unfold W_X7_keep; omega) hσ1 (fun r7 σ8 hσ8 => ?_)
  exact zw_some hσ8
theorem w_X7_key  (σ0 : zg_S) : zw (W_X7_key) σ0 (f_X7_key  σ0) := by
  unfold f_X7_key
  refine zw_call (w_X7_isWordAt 109 101 108 116 σ0) (fun p k h => False.elim h) wr.rf (fun r1 σ2 hσ2 => ?_)
  refine zw_ite ?_ ?_
  · refine zw_call (w_X7_isWordAt 102 101 101 0 σ2) (fun p k h => False.elim h) hσ2 (fun r10 σ11 hσ11 => ?_)
    refine zw_ite ?_ ?_
    · refine zw_call (w_X7_isWordAt 102 105 110 101 σ11) (fun p k h => False.elim h) hσ11 (fun r19 σ20 hσ20 => ?_)
      refine zw_ite ?_ ?_
      · exact zw_some hσ20
      · exact zw_some hσ20
    · exact zw_some hσ11
  · exact zw_some hσ2
theorem w_X7_worth (a1 : Int32) (σ0 : zg_S) : zw (W_X7_worth) σ0 (f_X7_worth a1 σ0) := by
  unfold f_X7_worth
  refine zw_call (w_X7_of a1 3 σ0) (fun p k h => False.elim h) wr.rf (fun r1 σ2 hσ2 => ?_)
  refine zw_call (w_X7_of a1 0 σ2) (fun p k h => False.elim h) hσ2 (fun r10 σ11 hσ11 => ?_)
  refine zw_ite ?_ ?_
  · exact zw_some hσ11
  · refine zw_ite ?_ ?_
    · exact zw_some hσ11
    · refine zw_ite ?_ ?_
      · exact zw_some hσ11
      · refine zw_ite ?_ ?_
        · exact zw_some hσ11
        · refine zw_ite ?_ ?_
          · exact zw_some hσ11
          · exact zw_some hσ11
theorem wB_X7_lay_150 (σ0 : zg_S) (a1 : Int32) (a2 : Int32) (a3 : Int32) (rec150_ : Int32 → Int32 → zg_S → Option (Int32 × zg_S)) (x5 : Int32) (x6 : Int32) (s : zg_S) (hrec150_ : ∀ (z0 : Int32) (z1 : Int32) (s : zg_S), wr (W_X7_lay) σ0 s → zw (W_X7_lay) σ0 (rec150_ z0 z1 s)) (hs : wr (W_X7_lay) σ0 s) : zw (W_X7_lay) σ0 (B_X7_lay_150 a1 a2 a3 rec150_ x5 x6 s) := by
  unfold B_X7_lay_150
  refine zw_ite ?_ ?_
  · exact zw_some hs
  · refine zw_in (fun z1 => ?_)
    refine zw_let (fun y7 => ?_)
    refine zw_in (fun z2 => ?_)
    refine zw_up (by unfold W_X7_lay; omega) hs (fun σ13 hσ13 => ?_)
    exact hrec150_ x5 (x6 + 1) σ13 hσ13
theorem wL_X7_lay_150 (σ0 : zg_S) (a1 : Int32) (a2 : Int32) (a3 : Int32) (n : Nat) (x5 : Int32) (x6 : Int32) (s : zg_S) (hs : wr (W_X7_lay) σ0 s) : zw (W_X7_lay) σ0 (L_X7_lay_150 a1 a2 a3 n x5 x6 s) := by
  unfold L_X7_lay_150
  exact zwf_II (fun r hr x5 x6 t ht => wB_X7_lay_150 σ0 a1 a2 a3 r x5 x6 t hr ht) n x5 x6 s hs
theorem wB_X7_lay_129 (σ0 : zg_S) (a1 : Int32) (a2 : Int32) (a3 : Int32) (x5 : Int32) (y0 : Int32) (y1 : Int32) (s : zg_S) (hs : wr (W_X7_lay) σ0 s) : zw (W_X7_lay) σ0 (B_X7_lay_129 a1 a2 a3 x5 y0 y1 s) := by
  unfold B_X7_lay_129
  refine zw_in (fun z1 => ?_)
  refine zw_up (by unfold W_X7_lay; omega) hs (fun σ24 hσ24 => ?_)
  refine zw_ite ?_ ?_
  · refine zw_in (fun z2 => ?_)
    refine zw_let (fun y36 => ?_)
    refine zw_in (fun z3 => ?_)
    refine zw_up (by unfold W_X7_lay; omega) hσ24 (fun σ42 hσ42 => ?_)
    exact wL_X7_lay_150 σ0 a1 a2 a3 zfu x5 0 σ42  hσ42
  · exact zw_some hσ24
theorem wB_X7_lay_109 (σ0 : zg_S) (a1 : Int32) (a2 : Int32) (a3 : Int32) (x5 : Int32) (y0 : Int32) (y1 : Int32) (s : zg_S) (hs : wr (W_X7_lay) σ0 s) : zw (W_X7_lay) σ0 (B_X7_lay_109 a1 a2 a3 x5 y0 y1 s) := by
  unfold B_X7_lay_109
  refine zw_in (fun z1 => ?_)
  refine zw_up (by unfold W_X7_lay; omega) hs (fun σ53 hσ53 => ?_)
  refine zw_ite ?_ ?_
  · refine zw_call (w_X7_worth a3 σ53) (fun p k h => False.elim h) hσ53 (fun r62 σ63 hσ63 => ?_)
    exact wB_X7_lay_129 σ0 a1 a2 a3 x5 r62 a1 σ63  hσ63
  · exact wB_X7_lay_129 σ0 a1 a2 a3 x5 0 a1 σ53  hσ53
theorem wB_X7_lay_74 (σ0 : zg_S) (a1 : Int32) (a2 : Int32) (a3 : Int32) (s : zg_S) (hs : wr (W_X7_lay) σ0 s) : zw (W_X7_lay) σ0 (B_X7_lay_74 a1 a2 a3 s) := by
  unfold B_X7_lay_74
  refine zw_in (fun z1 => ?_)
  refine zw_up (by unfold W_X7_lay; omega) hs (fun σ74 hσ74 => ?_)
  refine zw_ite ?_ ?_
  · refine zw_call (w_X7_of a3 0 σ74) (fun p k h => False.elim h) hσ74 (fun r83 σ84 hσ84 => ?_)
    exact wB_X7_lay_109 σ0 a1 a2 a3 (s 7 (Int32.toNatClampNeg a1)) r83 a1 σ84  hσ84
  · exact wB_X7_lay_109 σ0 a1 a2 a3 (s 7 (Int32.toNatClampNeg a1)) a3 a1 σ74  hσ74
theorem wB_X7_lay_39 (σ0 : zg_S) (a1 : Int32) (a2 : Int32) (a3 : Int32) (y0 : Int32) (s : zg_S) (hs : wr (W_X7_lay) σ0 s) : zw (W_X7_lay) σ0 (B_X7_lay_39 a1 a2 a3 y0 s) := by
  unfold B_X7_lay_39
  refine zw_call (w_X7_isSlot a1 s) (fun p k h => False.elim h) hs (fun r92 σ93 hσ93 => ?_)
  refine zw_ite ?_ ?_
  · exact zw_some hσ93
  · refine zw_ite ?_ ?_
    · exact zw_some hσ93
    · refine zw_ite ?_ ?_
      · refine zw_in (fun z1 => ?_)
        refine zw_ite ?_ ?_
        · exact wB_X7_lay_74 σ0 a1 a2 a3 σ93  hσ93
        · exact zw_some hσ93
      · exact wB_X7_lay_74 σ0 a1 a2 a3 σ93  hσ93
theorem wB_X7_lay_34 (σ0 : zg_S) (a1 : Int32) (a2 : Int32) (a3 : Int32) (s : zg_S) (hs : wr (W_X7_lay) σ0 s) : zw (W_X7_lay) σ0 (B_X7_lay_34 a1 a2 a3 s) := by
  unfold B_X7_lay_34
  exact wB_X7_lay_39 σ0 a1 a2 a3 1 s  hs
theorem wB_X7_lay_38 (σ0 : zg_S) (a1 : Int32) (a2 : Int32) (a3 : Int32) (s : zg_S) (hs : wr (W_X7_lay) σ0 s) : zw (W_X7_lay) σ0 (B_X7_lay_38 a1 a2 a3 s) := by
  unfold B_X7_lay_38
  exact wB_X7_lay_39 σ0 a1 a2 a3 0 s  hs
theorem wB_X7_lay_22 (σ0 : zg_S) (a1 : Int32) (a2 : Int32) (a3 : Int32) (s : zg_S) (hs : wr (W_X7_lay) σ0 s) : zw (W_X7_lay) σ0 (B_X7_lay_22 a1 a2 a3 s) := by
  unfold B_X7_lay_22
  refine zw_ite ?_ ?_
  · refine zw_call (w_X7_isSheet a3 s) (fun p k h => False.elim h) hs (fun r117 σ118 hσ118 => ?_)
    refine zw_ite ?_ ?_
    · exact wB_X7_lay_38 σ0 a1 a2 a3 σ118  hσ118
    · exact wB_X7_lay_34 σ0 a1 a2 a3 σ118  hσ118
  · exact wB_X7_lay_38 σ0 a1 a2 a3 s  hs
theorem w_X7_lay (a1 : Int32) (a2 : Int32) (a3 : Int32) (σ0 : zg_S) : zw (W_X7_lay) σ0 (f_X7_lay a1 a2 a3 σ0) := by
  unfold f_X7_lay
  refine zw_ite ?_ ?_
  · exact wB_X7_lay_34 σ0 a1 a2 a3 σ0  wr.rf
  · refine zw_ite ?_ ?_
    · exact wB_X7_lay_34 σ0 a1 a2 a3 σ0  wr.rf
    · refine zw_ite ?_ ?_
      · refine zw_call (w_X7_isStall a3 σ0) (fun p k h => False.elim h) wr.rf (fun r136 σ137 hσ137 => ?_)
        refine zw_ite ?_ ?_
        · exact wB_X7_lay_22 σ0 a1 a2 a3 σ137  hσ137
        · exact wB_X7_lay_34 σ0 a1 a2 a3 σ137  hσ137
      · exact wB_X7_lay_22 σ0 a1 a2 a3 σ0  wr.rf
theorem wB_X7_mark_96 (σ0 : zg_S) (a1 : Int32) (a2 : Int32) (a3 : Int32) (s : zg_S) (hs : wr (W_X7_mark) σ0 s) : zw (W_X7_mark) σ0 (B_X7_mark_96 a1 a2 a3 s) := by
  unfold B_X7_mark_96
  refine zw_in (fun z1 => ?_)
  refine zw_ite ?_ ?_
  · refine zw_let (fun y16 => ?_)
    refine zw_in (fun z2 => ?_)
    refine zw_up (by unfold W_X7_mark; omega) hs (fun σ22 hσ22 => ?_)
    exact zw_some hσ22
  · refine zw_in (fun z3 => ?_)
    refine zw_up (by unfold W_X7_mark; omega) hs (fun σ9 hσ9 => ?_)
    exact zw_some hσ9
theorem wB_X7_mark_63 (σ0 : zg_S) (a1 : Int32) (a2 : Int32) (a3 : Int32) (s : zg_S) (hs : wr (W_X7_mark) σ0 s) : zw (W_X7_mark) σ0 (B_X7_mark_63 a1 a2 a3 s) := by
  unfold B_X7_mark_63
  refine zw_in (fun z1 => ?_)
  refine zw_ite ?_ ?_
  · refine zw_ite ?_ ?_
    · exact wB_X7_mark_96 σ0 a1 a2 a3 s  hs
    · refine zw_call (w_X7_isIn (Int32.toInt64 a3) (Int32.toInt64 (-99999)) (Int32.toInt64 99999) s) (fun p k h => False.elim h) hs (fun r37 σ38 hσ38 => ?_)
      refine zw_ite ?_ ?_
      · exact zw_some hσ38
      · exact wB_X7_mark_96 σ0 a1 a2 a3 σ38  hσ38
  · exact wB_X7_mark_96 σ0 a1 a2 a3 s  hs
theorem w_X7_mark (a1 : Int32) (a2 : Int32) (a3 : Int32) (σ0 : zg_S) : zw (W_X7_mark) σ0 (f_X7_mark a1 a2 a3 σ0) := by
  unfold f_X7_mark
  refine zw_call (w_X7_isSheet a1 σ0) (fun p k h => False.elim h) wr.rf (fun r47 σ48 hσ48 => ?_)
  refine zw_ite ?_ ?_
  · exact zw_some hσ48
  · refine zw_in (fun z1 => ?_)
    refine zw_ite ?_ ?_
    · refine zw_call (w_X7_isIn (Int32.toInt64 a2) (Int32.toInt64 0) (Int32.toInt64 ((σ48 5 (Int32.toNatClampNeg a1)) - 1)) σ48) (fun p k h => False.elim h) hσ48 (fun r61 σ62 hσ62 => ?_)
      refine zw_ite ?_ ?_
      · exact zw_some hσ62
      · refine zw_ite ?_ ?_
        · refine zw_ite ?_ ?_
          · exact zw_some hσ62
          · exact wB_X7_mark_63 σ0 a1 a2 a3 σ62  hσ62
        · exact wB_X7_mark_63 σ0 a1 a2 a3 σ62  hσ62
    · exact zw_some hσ48
theorem w_X7_mostOf (a1 : Int32) (σ0 : zg_S) : zw (W_X7_mostOf) σ0 (f_X7_mostOf a1 σ0) := by
  unfold f_X7_mostOf
  refine zw_ite ?_ ?_
  · exact zw_some wr.rf
  · refine zw_ite ?_ ?_
    · exact zw_some wr.rf
    · refine zw_ite ?_ ?_
      · exact zw_some wr.rf
      · exact zw_some wr.rf
theorem wB_X7_parse_111 (σ0 : zg_S) (x1 : Int32) (x2 : Int32) (s : zg_S) (hs : wr (W_X7_parse) σ0 s) : zw (W_X7_parse) σ0 (B_X7_parse_111 x1 x2 s) := by
  unfold B_X7_parse_111
  refine zw_up (by unfold W_X7_parse; omega) hs (fun σ1 hσ1 => ?_)
  refine zw_ite ?_ ?_
  · exact zw_some hσ1
  · exact zw_some hσ1
theorem wB_X7_parse_110 (σ0 : zg_S) (x1 : Int32) (y0 : Int32) (s : zg_S) (hs : wr (W_X7_parse) σ0 s) : zw (W_X7_parse) σ0 (B_X7_parse_110 x1 y0 s) := by
  unfold B_X7_parse_110
  exact wB_X7_parse_111 σ0 x1 y0 s  hs
theorem wB_X7_parse_109 (σ0 : zg_S) (x1 : Int32) (s : zg_S) (hs : wr (W_X7_parse) σ0 s) : zw (W_X7_parse) σ0 (B_X7_parse_109 x1 s) := by
  unfold B_X7_parse_109
  exact wB_X7_parse_110 σ0 x1 0 s  hs
theorem wB_X7_parse_81 (σ0 : zg_S) (x1 : Int32) (y0 : Int32) (s : zg_S) (hs : wr (W_X7_parse) σ0 s) : zw (W_X7_parse) σ0 (B_X7_parse_81 x1 y0 s) := by
  unfold B_X7_parse_81
  refine zw_ite ?_ ?_
  · exact wB_X7_parse_111 σ0 x1 y0 s  hs
  · refine zw_call (w_X7_nextToken s) (fun p k h => by unfold W_X7_nextToken at h; unfold W_X7_parse; omega) hs (fun r17 σ18 hσ18 => ?_)
    refine zw_call (w_G_mp 128 0 x1 σ18) (fun p k h => by unfold W_G_mp at h; unfold W_X7_parse; omega) hσ18 (fun r24 σ25 hσ25 => ?_)
    refine zw_ite ?_ ?_
    · exact wB_X7_parse_109 σ0 x1 σ25  hσ25
    · refine zw_ite ?_ ?_
      · exact wB_X7_parse_110 σ0 x1 1 σ25  hσ25
      · exact wB_X7_parse_109 σ0 x1 σ25  hσ25
theorem wB_X7_parse_60 (σ0 : zg_S) (y0 : Int32) (s : zg_S) (hs : wr (W_X7_parse) σ0 s) : zw (W_X7_parse) σ0 (B_X7_parse_60 y0 s) := by
  unfold B_X7_parse_60
  refine zw_up (by unfold W_X7_parse; omega) hs (fun σ37 hσ37 => ?_)
  refine zw_call (w_X7_nextToken σ37) (fun p k h => by unfold W_X7_nextToken at h; unfold W_X7_parse; omega) hσ37 (fun r43 σ44 hσ44 => ?_)
  refine zw_call (w_X7_key σ44) (fun p k h => False.elim h) hσ44 (fun r50 σ51 hσ51 => ?_)
  refine zw_ite ?_ ?_
  · exact wB_X7_parse_81 σ0 r50 0 σ51  hσ51
  · exact wB_X7_parse_81 σ0 r50 1 σ51  hσ51
theorem w_X7_parse  (σ0 : zg_S) : zw (W_X7_parse) σ0 (f_X7_parse  σ0) := by
  unfold f_X7_parse
  refine zw_up (by unfold W_X7_parse; omega) wr.rf (fun σ62 hσ62 => ?_)
  refine zw_up (by unfold W_X7_parse; omega) hσ62 (fun σ68 hσ68 => ?_)
  refine zw_up (by unfold W_X7_parse; omega) hσ68 (fun σ74 hσ74 => ?_)
  refine zw_up (by unfold W_X7_parse; omega) hσ74 (fun σ80 hσ80 => ?_)
  refine zw_up (by unfold W_X7_parse; omega) hσ80 (fun σ86 hσ86 => ?_)
  refine zw_up (by unfold W_X7_parse; omega) hσ86 (fun σ92 hσ92 => ?_)
  refine zw_ite ?_ ?_
  · exact wB_X7_parse_60 σ0 2847 σ92  hσ92
  · refine zw_call (w_X7_textAt (σ92 1 1) σ92) (fun p k h => False.elim h) hσ92 (fun r101 σ102 hσ102 => ?_)
    exact wB_X7_parse_60 σ0 (r101 + 4) σ102  hσ102
theorem wB_X7_pour_118 (σ0 : zg_S) (a1 : Int32) (rec27_ : Int32 → Int32 → zg_S → Option (Int32 × zg_S)) (x3 : Int32) (y0 : Int32) (y1 : Int32) (s : zg_S) (hrec27_ : ∀ (z0 : Int32) (z1 : Int32) (s : zg_S), wr (W_X7_pour) σ0 s → zw (W_X7_pour) σ0 (rec27_ z0 z1 s)) (hs : wr (W_X7_pour) σ0 s) : zw (W_X7_pour) σ0 (B_X7_pour_118 a1 rec27_ x3 y0 y1 s) := by
  unfold B_X7_pour_118
  exact hrec27_ (y1 + y0) (x3 + 1) s hs
theorem wB_X7_pour_91 (σ0 : zg_S) (a1 : Int32) (rec27_ : Int32 → Int32 → zg_S → Option (Int32 × zg_S)) (x2 : Int32) (x3 : Int32) (y0 : Int32) (s : zg_S) (hrec27_ : ∀ (z0 : Int32) (z1 : Int32) (s : zg_S), wr (W_X7_pour) σ0 s → zw (W_X7_pour) σ0 (rec27_ z0 z1 s)) (hs : wr (W_X7_pour) σ0 s) : zw (W_X7_pour) σ0 (B_X7_pour_91 a1 rec27_ x2 x3 y0 s) := by
  unfold B_X7_pour_91
  refine zw_call (w_X7_becomes ((11 + (4 * x3)) + 2) y0 s) (fun p k h => by unfold W_X7_becomes at h; unfold W_X7_pour; omega) hs (fun r7 σ8 hσ8 => ?_)
  refine zw_ite ?_ ?_
  · exact wB_X7_pour_118 σ0 a1 rec27_ x3 0 x2 σ8 hrec27_ hσ8
  · exact wB_X7_pour_118 σ0 a1 rec27_ x3 1 x2 σ8 hrec27_ hσ8
theorem wB_X7_pour_27 (σ0 : zg_S) (a1 : Int32) (rec27_ : Int32 → Int32 → zg_S → Option (Int32 × zg_S)) (x2 : Int32) (x3 : Int32) (s : zg_S) (hrec27_ : ∀ (z0 : Int32) (z1 : Int32) (s : zg_S), wr (W_X7_pour) σ0 s → zw (W_X7_pour) σ0 (rec27_ z0 z1 s)) (hs : wr (W_X7_pour) σ0 s) : zw (W_X7_pour) σ0 (B_X7_pour_27 a1 rec27_ x2 x3 s) := by
  unfold B_X7_pour_27
  refine zw_in (fun z1 => ?_)
  refine zw_ite ?_ ?_
  · exact zw_some hs
  · refine zw_ite ?_ ?_
    · exact zw_some hs
    · refine zw_in (fun z2 => ?_)
      refine zw_let (fun y29 => ?_)
      refine zw_ite ?_ ?_
      · refine zw_in (fun z3 => ?_)
        exact wB_X7_pour_91 σ0 a1 rec27_ x2 x3 (s 1 (Int32.toNatClampNeg ((11 + (4 * x3)) + 2))) s hrec27_ hs
      · refine zw_call (w_X7_within y29 999 s) (fun p k h => False.elim h) hs (fun r36 σ37 hσ37 => ?_)
        exact wB_X7_pour_91 σ0 a1 rec27_ x2 x3 r36 σ37 hrec27_ hσ37
theorem wL_X7_pour_27 (σ0 : zg_S) (a1 : Int32) (n : Nat) (x2 : Int32) (x3 : Int32) (s : zg_S) (hs : wr (W_X7_pour) σ0 s) : zw (W_X7_pour) σ0 (L_X7_pour_27 a1 n x2 x3 s) := by
  unfold L_X7_pour_27
  exact zwf_II (fun r hr x2 x3 t ht => wB_X7_pour_27 σ0 a1 r x2 x3 t hr ht) n x2 x3 s hs
theorem w_X7_pour (a1 : Int32) (σ0 : zg_S) : zw (W_X7_pour) σ0 (f_X7_pour a1 σ0) := by
  unfold f_X7_pour
  refine zw_call (w_X7_isSheet a1 σ0) (fun p k h => False.elim h) wr.rf (fun r47 σ48 hσ48 => ?_)
  refine zw_ite ?_ ?_
  · exact zw_some hσ48
  · refine zw_in (fun z1 => ?_)
    refine zw_ite ?_ ?_
    · exact wL_X7_pour_27 σ0 a1 zfu 0 0 σ48  hσ48
    · exact zw_some hσ48
theorem wB_X7_reads_74 (σ0 : zg_S) (a1 : Int32) (rec25_ : Int32 → zg_S → Option (Int32 × zg_S)) (x2 : Int32) (s : zg_S) (hrec25_ : ∀ (z0 : Int32) (s : zg_S), wr (W_X7_reads) σ0 s → zw (W_X7_reads) σ0 (rec25_ z0 s)) (hs : wr (W_X7_reads) σ0 s) : zw (W_X7_reads) σ0 (B_X7_reads_74 a1 rec25_ x2 s) := by
  unfold B_X7_reads_74
  exact hrec25_ (x2 + 1) s hs
theorem wB_X7_reads_25 (σ0 : zg_S) (a1 : Int32) (rec25_ : Int32 → zg_S → Option (Int32 × zg_S)) (x2 : Int32) (s : zg_S) (hrec25_ : ∀ (z0 : Int32) (s : zg_S), wr (W_X7_reads) σ0 s → zw (W_X7_reads) σ0 (rec25_ z0 s)) (hs : wr (W_X7_reads) σ0 s) : zw (W_X7_reads) σ0 (B_X7_reads_25 a1 rec25_ x2 s) := by
  unfold B_X7_reads_25
  refine zw_in (fun z1 => ?_)
  refine zw_ite ?_ ?_
  · exact zw_some hs
  · refine zw_in (fun z2 => ?_)
    refine zw_let (fun y12 => ?_)
    refine zw_ite ?_ ?_
    · exact wB_X7_reads_74 σ0 a1 rec25_ x2 s hrec25_ hs
    · refine zw_ite ?_ ?_
      · exact zw_some hs
      · refine zw_call (w_X7_spoils x2 s) (fun p k h => by unfold W_X7_spoils at h; unfold W_X7_reads; omega) hs (fun r23 σ24 hσ24 => ?_)
        refine zw_ite ?_ ?_
        · exact wB_X7_reads_74 σ0 a1 rec25_ x2 σ24 hrec25_ hσ24
        · exact zw_some hσ24
theorem wL_X7_reads_25 (σ0 : zg_S) (a1 : Int32) (n : Nat) (x2 : Int32) (s : zg_S) (hs : wr (W_X7_reads) σ0 s) : zw (W_X7_reads) σ0 (L_X7_reads_25 a1 n x2 s) := by
  unfold L_X7_reads_25
  exact zwf_I (fun r hr x2 t ht => wB_X7_reads_25 σ0 a1 r x2 t hr ht) n x2 s hs
theorem w_X7_reads (a1 : Int32) (σ0 : zg_S) : zw (W_X7_reads) σ0 (f_X7_reads a1 σ0) := by
  unfold f_X7_reads
  refine zw_call (w_X7_isSheet a1 σ0) (fun p k h => False.elim h) wr.rf (fun r33 σ34 hσ34 => ?_)
  refine zw_ite ?_ ?_
  · exact zw_some hσ34
  · refine zw_in (fun z1 => ?_)
    refine zw_ite ?_ ?_
    · exact wL_X7_reads_25 σ0 a1 zfu 0 σ34  hσ34
    · exact zw_some hσ34
theorem w_X7_rest (a1 : Int32) (a2 : Int32) (σ0 : zg_S) : zw (W_X7_rest) σ0 (f_X7_rest a1 a2 σ0) := by
  unfold f_X7_rest
  refine zw_call (w_X7_isSlot a1 σ0) (fun p k h => False.elim h) wr.rf (fun r1 σ2 hσ2 => ?_)
  refine zw_ite ?_ ?_
  · exact zw_some hσ2
  · refine zw_in (fun z1 => ?_)
    refine zw_ite ?_ ?_
    · refine zw_ite ?_ ?_
      · exact zw_some hσ2
      · refine zw_ite zw_none ?_
        exact zw_some hσ2
    · refine zw_ite ?_ ?_
      · exact zw_some hσ2
      · exact zw_some hσ2
theorem wB_X7_rule_24 (σ0 : zg_S) (a1 : Int32) (a2 : Int32) (y0 : Int64) (y1 : Int64) (s : zg_S) (hs : wr (W_X7_rule) σ0 s) : zw (W_X7_rule) σ0 (B_X7_rule_24 a1 a2 y0 y1 s) := by
  unfold B_X7_rule_24
  refine zw_call (w_X7_mostOf a1 s) (fun p k h => False.elim h) hs (fun r1 σ2 hσ2 => ?_)
  refine zw_call (w_X7_isIn y1 y0 (Int32.toInt64 r1) σ2) (fun p k h => False.elim h) hσ2 (fun r8 σ9 hσ9 => ?_)
  refine zw_ite ?_ ?_
  · exact zw_some hσ9
  · refine zw_call (w_X7_becomes (7 + a1) a2 σ9) (fun p k h => by unfold W_X7_becomes at h; unfold W_X7_rule; omega) hσ9 (fun r17 σ18 hσ18 => ?_)
    refine zw_call (w_X7_holds σ18) (fun p k h => by unfold W_X7_holds at h; unfold W_X7_rule; omega) hσ18 (fun r26 σ27 hσ27 => ?_)
    exact zw_some hσ27
theorem w_X7_rule (a1 : Int32) (a2 : Int32) (σ0 : zg_S) : zw (W_X7_rule) σ0 (f_X7_rule a1 a2 σ0) := by
  unfold f_X7_rule
  refine zw_call (w_X7_isIn (Int32.toInt64 a1) (Int32.toInt64 0) (Int32.toInt64 3) σ0) (fun p k h => False.elim h) wr.rf (fun r34 σ35 hσ35 => ?_)
  refine zw_ite ?_ ?_
  · exact zw_some hσ35
  · refine zw_ite ?_ ?_
    · exact wB_X7_rule_24 σ0 a1 a2 (Int32.toInt64 1) (Int32.toInt64 a2) σ35  hσ35
    · exact wB_X7_rule_24 σ0 a1 a2 (Int32.toInt64 0) (Int32.toInt64 a2) σ35  hσ35
theorem w_X7_seed (a1 : Int32) (σ0 : zg_S) : zw (W_X7_seed) σ0 (f_X7_seed a1 σ0) := by
  unfold f_X7_seed
  refine zw_call (w_X7_becomes 6 a1 σ0) (fun p k h => by unfold W_X7_becomes at h; unfold W_X7_seed; omega) wr.rf (fun r1 σ2 hσ2 => ?_)
  exact zw_some hσ2
theorem wB_X7_set_48 (σ0 : zg_S) (a1 : Int32) (a2 : Int32) (a3 : Int32) (y0 : Int64) (y1 : Int64) (y2 : Int64) (s : zg_S) (hs : wr (W_X7_set) σ0 s) : zw (W_X7_set) σ0 (B_X7_set_48 a1 a2 a3 y0 y1 y2 s) := by
  unfold B_X7_set_48
  refine zw_call (w_X7_isIn y2 y1 y0 s) (fun p k h => False.elim h) hs (fun r1 σ2 hσ2 => ?_)
  refine zw_ite ?_ ?_
  · exact zw_some hσ2
  · refine zw_call (w_X7_becomes ((11 + (4 * a1)) + a2) a3 σ2) (fun p k h => by unfold W_X7_becomes at h; unfold W_X7_set; omega) hσ2 (fun r10 σ11 hσ11 => ?_)
    exact zw_some hσ11
theorem w_X7_set (a1 : Int32) (a2 : Int32) (a3 : Int32) (σ0 : zg_S) : zw (W_X7_set) σ0 (f_X7_set a1 a2 a3 σ0) := by
  unfold f_X7_set
  refine zw_call (w_X7_isStall a1 σ0) (fun p k h => False.elim h) wr.rf (fun r18 σ19 hσ19 => ?_)
  refine zw_ite ?_ ?_
  · exact zw_some hσ19
  · refine zw_call (w_X7_isIn (Int32.toInt64 a2) (Int32.toInt64 1) (Int32.toInt64 3) σ19) (fun p k h => False.elim h) hσ19 (fun r28 σ29 hσ29 => ?_)
    refine zw_ite ?_ ?_
    · exact zw_some hσ29
    · refine zw_ite ?_ ?_
      · exact wB_X7_set_48 σ0 a1 a2 a3 (Int32.toInt64 11) (Int32.toInt64 0) (Int32.toInt64 a3) σ29  hσ29
      · refine zw_ite ?_ ?_
        · exact wB_X7_set_48 σ0 a1 a2 a3 (Int32.toInt64 999) (Int32.toInt64 0) (Int32.toInt64 a3) σ29  hσ29
        · exact wB_X7_set_48 σ0 a1 a2 a3 (Int32.toInt64 99) (Int32.toInt64 0) (Int32.toInt64 a3) σ29  hσ29
