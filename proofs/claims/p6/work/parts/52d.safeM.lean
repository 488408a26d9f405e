theorem zTn {a : Int32} {v : Int} {n : Nat} (h : zT a v) (e : v = n) : a.toNatClampNeg = n := by
  unfold zT at h
  show a.toInt.toNat = n
  omega
set_option maxHeartbeats 1000000 in
theorem s_X7_worked (a1 : Int32) (σ : zg_S) (hσ : IMc σ) (hW : WF (σ 1)) (h0 : 0 ≤ a1.toInt) (h1 : a1.toInt < (σ 1 1).toInt) : zk (f_X7_worked a1 σ) (fun r s => IMc s ∧ hi σ s) := by
  have f11 : 0 ≤ (σ 1 1).toInt ∧ (σ 1 1).toInt ≤ 14 := hσ 1 1
  have e0 := zt_0
  have e1 := zt_1
  obtain ⟨t, ht⟩ : ∃ t : Nat, a1.toInt = t := ⟨a1.toInt.toNat, by omega⟩
  obtain ⟨w1, w2, w3⟩ := hW t (by omega)
  generalize hb : 47 + 200 * t = b at w1 w2 w3
  have hm0 := ztn w1
  generalize hm : (σ 1 (b + 2)).toNatClampNeg = m at w3 hm0
  unfold f_X7_worked L_X7_worked_4
  refine zl_II (fun (x2 x3 : Int32) (s : zg_S) => IMc s ∧ hi σ s ∧ ∃ d k : Nat, x2.toInt = d ∧ x3.toInt = k ∧ k ≤ m ∧ d ≤ k ∧ dep (σ 1) (b + 4) k (m - k) d = some 1) (fun (_ x3 : Int32) (_ : zg_S) => (98 - x3.toInt).toNat) ?_ zfu _ _ _ ⟨hσ, hi.rf, 0, 0, by omega, by omega, by omega, by omega, w3⟩ (by unfold zfu; omega)
  intro rec x2 x3 s hI ih
  obtain ⟨hs, hh, d, k, ed, ek, km, dk, hd⟩ := hI
  unfold B_X7_worked_4
  refine zk_call (s_X7_textAt a1 s hs h0 (by omega)) (fun r s1 hp => ?_)
  obtain ⟨rfl, er⟩ := hp
  have p2 := zTadd (zTl er) (zTl zt_2) (by omega) (by omega)
  refine zk_in (zin_mkT p2 (by omega) (by omega)) ?_
  have n2 : (r + 2).toNatClampNeg = b + 2 := zTn p2 (by omega)
  rw [n2, hh.2.1 (b + 2) (by omega)]
  refine zk_ite (fun _ => zk_some ⟨hs, hh⟩) (fun h => ?_)
  have g := znle h
  refine zk_call (s_X7_textAt a1 s hs h0 (by omega)) (fun r1 s1 hp => ?_)
  obtain ⟨rfl, er1⟩ := hp
  have p4 := zTadd (zTadd (zTl er1) (zTl zt_4) (by omega) (by omega)) (zTmul (zTl zt_2) (zTl ek) (by omega) (by omega)) (by omega) (by omega)
  refine zk_in (zin_mkT p4 (by omega) (by omega)) ?_
  refine zk_let (fun y46 ey46 => ?_)
  rw [zTn (n := b + 4 + 2 * k) p4 (by omega), hh.2.1 _ (by omega)] at ey46
  refine zk_call (s_X7_textAt a1 s hs h0 (by omega)) (fun r2 s1 hp => ?_)
  obtain ⟨rfl, er2⟩ := hp
  have p5 := zTadd (zTadd (zTadd (zTl er2) (zTl zt_4) (by omega) (by omega)) (zTmul (zTl zt_2) (zTl ek) (by omega) (by omega)) (by omega) (by omega)) (zTl zt_1) (by omega) (by omega)
  refine zk_in (zin_mkT p5 (by omega) (by omega)) ?_
  refine zk_let (fun y61 ey61 => ?_)
  rw [zTn (n := b + 4 + 2 * k + 1) p5 (by omega), hh.2.1 _ (by omega)] at ey61
  obtain ⟨n, hn⟩ : ∃ n, m - k = n + 1 := ⟨m - k - 1, by omega⟩
  rw [hn, dep, ← ey46, ← ey61] at hd
  have hn1 : m - (k + 1) = n := by omega
  have ex3 := zTe (zTadd (zTl ek) (zTl zt_1) (by omega) (by omega))
  have mu : (98 - (x3 + 1).toInt).toNat < (98 - x3.toInt).toNat := by rw [ex3]; omega
  refine zk_ite (fun h2 => ?_) (fun h2 => ?_)
  · rw [if_pos h2] at hd
    refine zk_ite (fun h33 => ?_) (fun h33 => ?_)
    · rw [if_pos h33] at hd
      obtain ⟨hd1, hd⟩ := zC hd
      have z : zin (x2 - 1) 100 = true := zin_mkT (zTsub (zTl ed) (zTl zt_1) (by omega) (by omega)) (by omega) (by omega)
      refine zk_in z ?_
      have b123 : ∀ v : Int32, zk (B_X7_worked_123 a1 rec x2 x3 v (x2 - 1) s) (fun r s => IMc s ∧ hi σ s) := by
        intro v
        unfold B_X7_worked_123
        refine zk_in z (zk_let (fun s2 q2 => ?_))
        unfold B_X7_worked_157
        exact ih x2 (x3 + 1) s2 ⟨by rw [q2]; exact IMc.up hs (zTs v) trivial, by rw [q2]; exact hi.upo hh rfl, d, k + 1, ed, by rw [ex3]; omega, by omega, by omega, by rw [hn1]; exact hd⟩ mu
      exact zk_ite (fun _ => b123 1) (fun _ => b123 0)
    · rw [if_neg h33] at hd
      obtain ⟨hd2, hd⟩ := zC hd
      have pm := zTadd (zTl ed) (zTl zt_m1) (by omega) (by omega)
      refine zk_in (zin_mkT (zTsub pm (zTl zt_1) (by omega) (by omega)) (by omega) (by omega)) ?_
      refine zk_in (zin_mkT pm (by omega) (by omega)) ?_
      refine zk_call (s_X7_joined _ _ _ s hs) (fun r3 s3 hp => ?_)
      subst hp
      refine zk_let (fun s2 q2 => ?_)
      unfold B_X7_worked_157
      exact ih (x2 + (-1)) (x3 + 1) s2 ⟨by rw [q2]; exact IMc.up hs (zTs _) trivial, by rw [q2]; exact hi.upo hh rfl, d - 1, k + 1, by rw [zTe pm]; omega, by rw [ex3]; omega, by omega, by omega, by rw [hn1]; exact hd⟩ mu
  · rw [if_neg h2] at hd
    obtain ⟨hc, hd⟩ := zC hd
    have b86 : ∀ v : Int32, zk (B_X7_worked_86 a1 rec x2 x3 v x2 s) (fun r s => IMc s ∧ hi σ s) := by
      intro v
      unfold B_X7_worked_86
      refine zk_in (zin_mkT (zTl ed) (by omega) (by omega)) (zk_let (fun s2 q2 => ?_))
      unfold B_X7_worked_157
      exact ih (x2 + 1) (x3 + 1) s2 ⟨by rw [q2]; exact IMc.up hs (zTs v) trivial, by rw [q2]; exact hi.upo hh rfl, d + 1, k + 1, by rw [zTe (zTadd (zTl ed) (zTl zt_1) (by omega) (by omega))]; omega, by rw [ex3]; omega, by omega, by omega, by rw [hn1]; exact hd⟩ mu
    refine zk_ite (fun _ => b86 y61) (fun h0' => ?_)
    have hc := hc.resolve_left h0'
    exact zk_in (zin_mk hc.1 (by omega)) (b86 _)

set_option maxHeartbeats 400000 in
theorem s_X7_melts (a1 : Int32) (σ : zg_S) (hσ : IMc σ) (hW : WF (σ 1)) (hp0_ : 0 ≤ a1.toInt) (hp1_ : a1.toInt ≤ 8) : zk (f_X7_melts a1 σ) (fun r s => IMc s ∧ hi σ s) := by
  unfold f_X7_melts
  have e1 := zt_0
  refine zk_call (s_X7_counts 0 σ hσ ) (fun r1 σ2 hp2 => ?_)
  obtain ⟨rfl, x3, x4⟩ := hp2
  have f5 : 0 ≤ (σ 1 1).toInt ∧ (σ 1 1).toInt ≤ 14 := IMf hσ 1 1
  refine zk_ite (fun h6 => ?_) (fun h6 => ?_)
  · have g7 := zle h6
    refine zk_call (s_X7_heat σ hσ ) (fun r12 σ13 hp8 => ?_)
    subst hp8
    refine zk_let (fun σ19 q11 => ?_)
    have hS9 : IMc σ19 := by rw [q11]; exact IMc.up hσ (zTs r12) trivial
    have hH10 : hi σ σ19 := by rw [q11]; exact hi.upo hi.rf rfl
    have e12 := zt_2
    refine zk_call (s_X7_of a1 2 σ19 hS9 (by omega) (by omega) (by omega) (by omega)) (fun r25 σ26 hp13 => ?_)
    subst hp13
    refine zk_let (fun σ32 q16 => ?_)
    have hS14 : IMc σ32 := by rw [q16]; exact IMc.up hS9 (zTs r25) trivial
    have hH15 : hi σ σ32 := by rw [q16]; exact hi.upo hH10 rfl
    have e17 := zt_3
    refine zk_call (s_X7_of a1 3 σ32 hS14 (by omega) (by omega) (by omega) (by omega)) (fun r38 σ39 hp18 => ?_)
    subst hp18
    refine zk_let (fun σ45 q21 => ?_)
    have hS19 : IMc σ45 := by rw [q21]; exact IMc.up hS14 (zTs r38) trivial
    have hH20 : hi σ σ45 := by rw [q21]; exact hi.upo hH15 rfl
    have f22 : 0 ≤ (σ45 1 1).toInt ∧ (σ45 1 1).toInt ≤ 14 := IMf hS19 1 1
    have g23 := congrArg Int32.toInt (hH20).1
    refine zk_call (s_X7_worked r1 σ45 hS19 (WF.hi hW hH20) (by omega) (by omega)) (fun r51 σ52 hp24 => ?_)
    obtain ⟨hS25, hH26⟩ := hp24
    refine zk_call (s_X7_of a1 2 σ52 hS25 (by omega) (by omega) (by omega) (by omega)) (fun r58 σ59 hp27 => ?_)
    subst hp27
    refine zk_call (s_X7_within r51 r58 σ52 hS25 ) (fun r65 σ66 hp28 => ?_)
    subst hp28
    exact zk_some ⟨hS25, (hH20.tr hH26)⟩
  · have g29 := znle h6
    refine zk_call (s_X7_heat σ hσ ) (fun r73 σ74 hp30 => ?_)
    subst hp30
    exact zk_some ⟨hσ, hi.rf⟩

set_option maxHeartbeats 400000 in
theorem s_X7_spoils (a1 : Int32) (σ : zg_S) (hσ : IMc σ) (hW : WF (σ 1)) (hp0_ : 0 ≤ a1.toInt) (hp1_ : a1.toInt ≤ 8) : zk (f_X7_spoils a1 σ) (fun r s => IMc s ∧ hi σ s) := by
  unfold f_X7_spoils
  refine zk_call (s_X7_isShaded a1 σ hσ (by omega) (by omega)) (fun r22 σ23 hp1 => ?_)
  obtain ⟨rfl, x2⟩ := hp1
  refine zk_ite (fun h3 => ?_) (fun h3 => ?_)
  · have g4 := zeq h3
    have e5 := zt_0
    refine zk_call (s_X7_of a1 0 σ hσ (by omega) (by omega) (by omega) (by omega)) (fun r31 σ32 hp6 => ?_)
    subst hp6
    refine zk_ite (fun h7 => ?_) (fun h7 => ?_)
    · have g8 := zeq h7
      refine zk_call (s_X7_melts a1 σ hσ (WF.hi hW hi.rf) (by omega) (by omega)) (fun r98 σ99 hp9 => ?_)
      obtain ⟨hS10, hH11⟩ := hp9
      unfold B_X7_spoils_109
      have e12 := zt_2
      refine zk_call (s_X7_of a1 2 σ99 hS10 (by omega) (by omega) (by omega) (by omega)) (fun r1 σ2 hp13 => ?_)
      subst hp13
      refine zk_ite (fun h14 => ?_) (fun h14 => ?_)
      · have g15 := zle h14
        exact zk_some ⟨hS10, (hi.rf.tr hH11)⟩
      · have g16 := znle h14
        refine zk_call (s_X7_of a1 2 σ99 hS10 (by omega) (by omega) (by omega) (by omega)) (fun r11 σ12 hp17 => ?_)
        subst hp17
        exact zk_some ⟨hS10, (hi.rf.tr hH11)⟩
    · have g18 := zne h7
      refine zk_call (s_X7_of a1 0 σ hσ (by omega) (by omega) (by omega) (by omega)) (fun r40 σ41 hp19 => ?_)
      subst hp19
      refine zk_ite (fun h20 => ?_) (fun h20 => ?_)
      · have g21 := zeq h20
        have e22 := zt_1
        refine zk_call (s_X7_melts a1 σ hσ (WF.hi hW hi.rf) (by omega) (by omega)) (fun r88 σ89 hp23 => ?_)
        obtain ⟨hS24, hH25⟩ := hp23
        unfold B_X7_spoils_109
        have e26 := zt_2
        refine zk_call (s_X7_of a1 2 σ89 hS24 (by omega) (by omega) (by omega) (by omega)) (fun r1 σ2 hp27 => ?_)
        subst hp27
        refine zk_ite (fun h28 => ?_) (fun h28 => ?_)
        · have g29 := zle h28
          exact zk_some ⟨hS24, (hi.rf.tr hH25)⟩
        · have g30 := znle h28
          refine zk_call (s_X7_of a1 2 σ89 hS24 (by omega) (by omega) (by omega) (by omega)) (fun r11 σ12 hp31 => ?_)
          subst hp31
          exact zk_some ⟨hS24, (hi.rf.tr hH25)⟩
      · have g32 := zne h20
        have e33 := zt_1
        refine zk_call (s_X7_of a1 0 σ hσ (by omega) (by omega) (by omega) (by omega)) (fun r49 σ50 hp34 => ?_)
        subst hp34
        refine zk_ite (fun h35 => ?_) (fun h35 => ?_)
        · have g36 := zeq h35
          have e37 := zt_3
          refine zk_call (s_X7_melts a1 σ hσ (WF.hi hW hi.rf) (by omega) (by omega)) (fun r78 σ79 hp38 => ?_)
          obtain ⟨hS39, hH40⟩ := hp38
          unfold B_X7_spoils_109
          have e41 := zt_2
          refine zk_call (s_X7_of a1 2 σ79 hS39 (by omega) (by omega) (by omega) (by omega)) (fun r1 σ2 hp42 => ?_)
          subst hp42
          refine zk_ite (fun h43 => ?_) (fun h43 => ?_)
          · have g44 := zle h43
            exact zk_some ⟨hS39, (hi.rf.tr hH40)⟩
          · have g45 := znle h43
            refine zk_call (s_X7_of a1 2 σ79 hS39 (by omega) (by omega) (by omega) (by omega)) (fun r11 σ12 hp46 => ?_)
            subst hp46
            exact zk_some ⟨hS39, (hi.rf.tr hH40)⟩
        · have g47 := zne h35
          have e48 := zt_3
          refine zk_call (s_X7_of a1 0 σ hσ (by omega) (by omega) (by omega) (by omega)) (fun r58 σ59 hp49 => ?_)
          subst hp49
          refine zk_ite (fun h50 => ?_) (fun h50 => ?_)
          · have g51 := zeq h50
            have e52 := zt_5
            refine zk_call (s_X7_melts a1 σ hσ (WF.hi hW hi.rf) (by omega) (by omega)) (fun r68 σ69 hp53 => ?_)
            obtain ⟨hS54, hH55⟩ := hp53
            unfold B_X7_spoils_109
            have e56 := zt_2
            refine zk_call (s_X7_of a1 2 σ69 hS54 (by omega) (by omega) (by omega) (by omega)) (fun r1 σ2 hp57 => ?_)
            subst hp57
            refine zk_ite (fun h58 => ?_) (fun h58 => ?_)
            · have g59 := zle h58
              exact zk_some ⟨hS54, (hi.rf.tr hH55)⟩
            · have g60 := znle h58
              refine zk_call (s_X7_of a1 2 σ69 hS54 (by omega) (by omega) (by omega) (by omega)) (fun r11 σ12 hp61 => ?_)
              subst hp61
              exact zk_some ⟨hS54, (hi.rf.tr hH55)⟩
          · have g62 := zne h50
            have e63 := zt_5
            unfold B_X7_spoils_109
            have e64 := zt_2
            refine zk_call (s_X7_of a1 2 σ hσ (by omega) (by omega) (by omega) (by omega)) (fun r1 σ2 hp65 => ?_)
            subst hp65
            refine zk_ite (fun h66 => ?_) (fun h66 => ?_)
            · have g67 := zle h66
              exact zk_some ⟨hσ, hi.rf⟩
            · have g68 := znle h66
              refine zk_call (s_X7_of a1 2 σ hσ (by omega) (by omega) (by omega) (by omega)) (fun r11 σ12 hp69 => ?_)
              subst hp69
              exact zk_some ⟨hσ, hi.rf⟩
  · have g70 := zne h3
    have e71 := zt_0
    refine zk_call (s_X7_of a1 0 σ hσ (by omega) (by omega) (by omega) (by omega)) (fun r108 σ109 hp72 => ?_)
    subst hp72
    refine zk_ite (fun h73 => ?_) (fun h73 => ?_)
    · have g74 := zeq h73
      have e75 := zt_4
      unfold B_X7_spoils_25
      unfold B_X7_spoils_109
      have e76 := zt_2
      refine zk_call (s_X7_of a1 2 σ hσ (by omega) (by omega) (by omega) (by omega)) (fun r1 σ2 hp77 => ?_)
      subst hp77
      refine zk_ite (fun h78 => ?_) (fun h78 => ?_)
      · have g79 := zle h78
        exact zk_some ⟨hσ, hi.rf⟩
      · have g80 := znle h78
        refine zk_call (s_X7_of a1 2 σ hσ (by omega) (by omega) (by omega) (by omega)) (fun r11 σ12 hp81 => ?_)
        subst hp81
        exact zk_some ⟨hσ, hi.rf⟩
    · have g82 := zne h73
      have e83 := zt_4
      unfold B_X7_spoils_25
      unfold B_X7_spoils_109
      have e84 := zt_2
      refine zk_call (s_X7_of a1 2 σ hσ (by omega) (by omega) (by omega) (by omega)) (fun r1 σ2 hp85 => ?_)
      subst hp85
      refine zk_ite (fun h86 => ?_) (fun h86 => ?_)
      · have g87 := zle h86
        exact zk_some ⟨hσ, hi.rf⟩
      · have g88 := znle h86
        refine zk_call (s_X7_of a1 2 σ hσ (by omega) (by omega) (by omega) (by omega)) (fun r11 σ12 hp89 => ?_)
        subst hp89
        exact zk_some ⟨hσ, hi.rf⟩

