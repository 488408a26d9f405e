/-! the reference's hour, over its row 1 -/
theorem zbd_s {r : Int32} {s : zg_S} {k : Int32 → zg_S → Option (Int32 × zg_S)} : zbd (some (r, s)) k = k r s := rfl
theorem r_isIn1 {a lo hi : Int32} (σ : zg_S) (h : lo.toInt ≤ a.toInt ∧ a.toInt ≤ hi.toInt) : f_X7_isIn (Int32.toInt64 a) (Int32.toInt64 lo) (Int32.toInt64 hi) σ = some (1, σ) := by
  obtain ⟨r, s, e, rfl, hr⟩ := x_isIn a lo hi σ
  rcases hr with ⟨_, hn⟩ | ⟨rfl, _⟩
  · exact absurd h hn
  · exact e
theorem r_isIn0 {a lo hi : Int32} (σ : zg_S) (h : ¬ (lo.toInt ≤ a.toInt ∧ a.toInt ≤ hi.toInt)) : f_X7_isIn (Int32.toInt64 a) (Int32.toInt64 lo) (Int32.toInt64 hi) σ = some (0, σ) := by
  obtain ⟨r, s, e, rfl, hr⟩ := x_isIn a lo hi σ
  rcases hr with ⟨rfl, _⟩ | ⟨_, hy⟩
  · exact e
  · exact absurd hy h
theorem sHeld_lo {a hi : Int32} (h : ¬ hi < a) : sHeld a 0 hi = if 0 < a then a else 0 := by
  unfold sHeld
  rw [if_neg h]
theorem sHeld_hi {a hi : Int32} (h : hi < a) : sHeld a 0 hi = if 0 < hi then hi else 0 := by
  unfold sHeld
  rw [if_pos h]
theorem nlt_i {a b : Int32} (h : b.toInt ≤ a.toInt) : ¬ a < b := fun z => by
  have := zlt z
  omega
theorem lt_i {a b : Int32} (h : a.toInt < b.toInt) : a < b := Int32.lt_iff_toInt_lt.mpr h
theorem r_within (a hi : Int32) (σ : zg_S) (h : 0 ≤ hi.toInt) : f_X7_within a hi σ = some (sHeld a 0 hi, σ) := by
  have e0 := zt_0
  have ii : ∀ a b : Int32, a.toInt = b.toInt → a = b := fun a b h => Int32.toInt_inj.mp h
  unfold f_X7_within
  by_cases c : 0 ≤ a
  · rw [if_pos c]
    have c' := zle c
    by_cases d : a ≤ hi
    · rw [if_pos d]
      have d' := zle d
      rw [sHeld_lo (nlt_i d')]
      by_cases f : (0 : Int32) < a
      · rw [if_pos f]
      · rw [if_neg f]
        have := znlt f
        rw [ii a 0 (by omega)]
    · rw [if_neg d]
      have d' := znle d
      rw [sHeld_hi (lt_i d')]
      by_cases f : (0 : Int32) < hi
      · rw [if_pos f]
      · rw [if_neg f]
        have := znlt f
        rw [ii hi 0 (by omega)]
  · rw [if_neg c]
    have c' := znle c
    rw [sHeld_lo (nlt_i (by omega)), if_neg (nlt_i (by omega))]
def tvs (g : Nat → Int32) : Prop := ∀ t : Nat, (t : Int) < (g 1).toInt → TV g t
theorem TV.st {g h : Nat → Int32} {t : Nat} (s : STx g h) (x : TV g t) : TV h t := fun i hi => by
  rw [s.2 _ (by omega)] at hi
  obtain ⟨c, hc⟩ := x i hi
  exact ⟨c, by rw [s.2 (47 + 200 * t) (by omega), s.2 (47 + 200 * t + 4 + 2 * i) (by omega), s.2 (47 + 200 * t + 4 + 2 * i + 1) (by omega)]; exact hc⟩
theorem tvs.st {g h : Nat → Int32} (s : STx g h) (x : tvs g) : tvs h := fun t ht => (x t (by rw [← s.1]; exact ht)).st s
theorem TXR.tv {σ : zg_S} {p : Nat} {g : Nat → Int32} (h : TXR σ p g) : tvs g := fun t ht => (h.2 t ht).tv
section
variable {τ : zg_S} {g : Nat → Int32}
theorem r_heat (h1 : τ 1 = g) (o : gOK g) : f_X7_heat τ = some (sHeat g, τ) := by
  obtain ⟨_, h2, _⟩ := o.1
  have e0 := zt_0
  have e5 := zt_5
  have et := sT_b h2.1
  have er := zrem (g 2) 10 10 zt_10 (by decide) (by decide) h2.1
  unfold f_X7_heat f_X7_off
  rw [h1]
  by_cases c : 5 ≤ g 2 - g 2 / 10 * 10
  · rw [if_pos c]
    have c' := zle c
    show some (45 - (5 * sT g), τ) = some (45 - (5 * sAbs (sT g)), τ)
    unfold sAbs
    rw [if_pos (Int32.le_iff_toInt_le.mpr (by omega))]
  · rw [if_neg c]
    have c' := znle c
    show some (45 - (5 * (5 - (g 2 - g 2 / 10 * 10))), τ) = some (45 - (5 * sAbs (sT g)), τ)
    unfold sAbs
    rw [if_neg (fun z => by have := zle z; omega), Int32.zero_sub]
    unfold sT
    rw [Int32.neg_sub]
theorem r_shadeFrom (h1 : τ 1 = g) : f_X7_shadeFrom τ = some (g 7 + sO g, τ) := by
  subst h1
  rfl
theorem r_of {a1 a2 : Int32} {k j : Nat} (h1 : τ 1 = g) (ha : a1.toInt = k) (hk : k ≤ 8) (hj : a2.toInt = j) (hj2 : j ≤ 3) : f_X7_of a1 a2 τ = some (g (11 + 4 * k + j), τ) := by
  have e11 := zt_11
  have e4 := zt_4
  have p := zTadd (zTadd (zTl zt_11) (zTmul (zTl zt_4) (zTs a1) (by omega) (by omega)) (by omega) (by omega)) (zTs a2) (by omega) (by omega)
  unfold f_X7_of
  rw [if_pos (zin_mkT p (by omega) (by omega)), h1, zTn p (show (11 + 4 * a1.toInt + a2.toInt : Int) = ((11 + 4 * k + j : Nat) : Int) by omega)]
theorem r_isShaded {a1 : Int32} {k : Nat} (h1 : τ 1 = g) (ha : a1.toInt = k) (hk : k ≤ 8) (h2 : 0 ≤ (g 2).toInt) (hw : 1 ≤ (g 8).toInt ∧ (g 8).toInt ≤ 6) (hF : -100 ≤ (g 7).toInt ∧ (g 7).toInt ≤ 100) : f_X7_isShaded a1 τ = some (sShd g (g 7) (g (11 + 4 * k + 1)), τ) := by
  unfold f_X7_isShaded
  rw [r_of h1 ha hk zt_1 (by decide), zbd_s, r_shadeFrom h1, zbd_s, r_shadeFrom h1, zbd_s, h1]
  have hr := sShd_r (g := g) (F := g 7) (pl := g (11 + 4 * k + 1)) h2 hw hF
  rcases sShd_01 g (g 7) (g (11 + 4 * k + 1)) with e | e
  · rw [r_isIn0 τ (fun z => absurd ((hr.mp z).symm.trans e) (by decide)), e]
    rfl
  · rw [r_isIn1 τ (hr.mpr e), e]
    rfl
theorem gF (o : gB g) : -100 ≤ (g 7).toInt ∧ (g 7).toInt ≤ 100 := by
  obtain ⟨_, _, h8, h7, _⟩ := o
  omega
theorem r_shaded {a1 : Int32} {k : Nat} (h1 : τ 1 = g) (o : gOK g) (ha : a1.toInt = k) (hk : (k : Int) < (g 0).toInt) : f_X7_isShaded a1 τ = some (sShd g (g 7) (g (11 + 4 * k + 1)), τ) := by
  obtain ⟨hN, h2, h8, _⟩ := id o.1
  exact r_isShaded h1 ha (by omega) h2.1 h8 (gF o.1)
theorem r_melts {a1 : Int32} {k : Nat} (h1 : τ 1 = g) (o : gOK g) (hV : tvs g) (ha : a1.toInt = k) (hk : (k : Int) < (g 0).toInt) : zk (f_X7_melts a1 τ) (fun r s => r = sPl g k ∧ s 1 = g) := by
  obtain ⟨hB, hS, hn, hW, _⟩ := id o
  obtain ⟨hN, h2, _⟩ := id hB
  obtain ⟨_, _, b2, _⟩ := hS k hk
  have nn := ztn hn.1
  have e0 := zt_0
  have hb := sCn_b g 0 (g 1).toNatClampNeg (by omega)
  refine zk_mono (zk_w ?_ (w_X7_melts a1 τ)) (fun r s hp => ⟨hp.1, ?_⟩)
  case refine_2 =>
    rw [← h1]
    exact funext (fun j => hp.2 1 j (by unfold W_X7_melts; omega))
  unfold f_X7_melts sPl
  refine zk_call (r_counts 0 τ g h1 hn) (fun r s hp => ?_)
  obtain ⟨rfl, rfl⟩ := hp
  by_cases c : 0 ≤ sCt g 0
  · have c0 := zle c
    have ht : (sCt g 0).toInt < (g 1).toInt := by have := hb.2.1; show (sCn g 0 (g 1).toNatClampNeg).toInt < _; omega
    have nt := ztn (i := sCt g 0) (by omega)
    have key : g (47 + 200 * (sCt g 0).toNatClampNeg) = 0 := hb.2.2 (by show 0 ≤ (sCt g 0).toInt; omega)
    have htt : ((sCt g 0).toNatClampNeg : Int) < (g 1).toInt := by omega
    rw [if_pos c, if_pos c]
    refine zk_e (r_heat h1 o) ?_
    refine zk_let (fun s1 q1 => ?_)
    have r1 : s1 1 = g := by rw [q1]; exact (zup_ne rfl).trans h1
    refine zk_e (r_of r1 ha (by omega) zt_2 (by decide)) ?_
    refine zk_let (fun s2 q2 => ?_)
    have r2 : s2 1 = g := by rw [q2]; exact (zup_ne rfl).trans r1
    refine zk_e (r_of r2 ha (by omega) zt_3 (by decide)) ?_
    refine zk_let (fun s3 q3 => ?_)
    have r3 : s3 1 = g := by rw [q3]; exact (zup_ne rfl).trans r2
    have v112 : s3 14 112 = g (11 + 4 * k + 3) := by rw [q3]; exact zgot
    have v103 : s3 14 103 = g (11 + 4 * k + 2) := by rw [q3]; refine (zkeepf rfl).trans ?_; rw [q2]; exact zgot
    have v104 : s3 14 104 = sHeat g := by rw [q3]; refine (zkeepf rfl).trans ?_; rw [q2]; refine (zkeepf rfl).trans ?_; rw [q1]; exact zgot
    refine zk_call (zk_w (r_worked (sCt g 0) (sCt g 0).toNatClampNeg (sHeat g) (g (11 + 4 * k + 2)) (g (11 + 4 * k + 3)) s3 g r3 (by omega) (by omega) (hV _ htt) (hW _ htt) ?_) (w_X7_worked _ s3)) (fun r s hp => ?_)
    · intro v c' hno
      rw [key] at hno ⊢
      rcases hno with ⟨_, h⟩ | ⟨h, _⟩ | ⟨h, _⟩
      · rcases h with ⟨h, _⟩ | ⟨h, _⟩ | ⟨h, _⟩
        · rw [h]; exact v104
        · rw [h]; exact v103
        · rw [h]; exact v112
      · exact absurd h (by decide)
      · exact absurd h (by decide)
    · have r4 : s 1 = g := (funext (fun j => hp.2 1 j (by unfold W_X7_worked; omega))).trans r3
      refine zk_e (r_of r4 ha (by omega) zt_2 (by decide)) ?_
      refine zk_e (r_within _ _ _ b2.1) ?_
      exact zk_some (by rw [hp.1])
  · rw [if_neg c, if_neg c]
    refine zk_e (r_heat h1 o) ?_
    exact zk_some rfl
theorem r_sp109 {a1 x : Int32} {k : Nat} (h1 : τ 1 = g) (ha : a1.toInt = k) (hk : k ≤ 8) : B_X7_spoils_109 a1 x τ = some (if x ≤ g (11 + 4 * k + 2) then x else g (11 + 4 * k + 2), τ) := by
  unfold B_X7_spoils_109
  rw [r_of h1 ha hk zt_2 (by decide), zbd_s, r_of h1 ha hk zt_2 (by decide), zbd_s]
  by_cases c : x ≤ g (11 + 4 * k + 2)
  · rw [if_pos c, if_pos c]
  · rw [if_neg c, if_neg c]
theorem r_spoils {a1 : Int32} {k : Nat} (h1 : τ 1 = g) (o : gOK g) (hV : tvs g) (ha : a1.toInt = k) (hk : (k : Int) < (g 0).toInt) : zk (f_X7_spoils a1 τ) (fun r s => r = sLs g k ∧ s 1 = g) := by
  obtain ⟨hN, _⟩ := id o.1
  have hb := o.2.1 k hk
  have k8 : k ≤ 8 := by omega
  rw [sLs_r o.1 hb]
  have fin : ∀ (y : Int32) (s : zg_S), s 1 = g → y = sRw g k → zk (B_X7_spoils_109 a1 y s) (fun r s => r = (if sRw g k ≤ g (11 + 4 * k + 2) then sRw g k else g (11 + 4 * k + 2)) ∧ s 1 = g) := fun y s hs hy => by
    rw [r_sp109 hs ha k8, hy]
    exact zk_some ⟨rfl, hs⟩
  have ml := r_melts h1 o hV ha hk
  unfold f_X7_spoils
  refine zk_e (r_shaded h1 o ha hk) ?_
  refine zk_ite (fun hz => ?_) (fun hz => ?_)
  · have eR : sRw g k = sSun (g (11 + 4 * k)) (sPl g k) := by unfold sRw; rw [if_pos hz]
    refine zk_e (r_of h1 ha k8 zt_0 (by decide)) ?_
    refine zk_ite (fun k0 => ?_) (fun k0 => ?_)
    · refine zk_call ml (fun r s hp => fin _ s hp.2 ?_)
      rw [eR, hp.1, show g (11 + 4 * k) = 0 from k0]
      rfl
    refine zk_e (r_of h1 ha k8 zt_0 (by decide)) ?_
    refine zk_ite (fun k1 => ?_) (fun k1 => ?_)
    · refine zk_call ml (fun r s hp => fin _ s hp.2 ?_)
      rw [eR, hp.1, show g (11 + 4 * k) = 1 from k1]
      rfl
    refine zk_e (r_of h1 ha k8 zt_0 (by decide)) ?_
    refine zk_ite (fun k3 => ?_) (fun k3 => ?_)
    · refine zk_call ml (fun r s hp => fin _ s hp.2 ?_)
      rw [eR, hp.1, show g (11 + 4 * k) = 3 from k3]
      rfl
    refine zk_e (r_of h1 ha k8 zt_0 (by decide)) ?_
    refine zk_ite (fun k5 => ?_) (fun k5 => ?_)
    · refine zk_call ml (fun r s hp => fin _ s hp.2 ?_)
      rw [eR, hp.1, show g (11 + 4 * k) = 5 from k5]
      rfl
    refine fin 0 τ h1 ?_
    rw [eR]
    obtain ⟨hk0, _⟩ := hb
    have ii := i9 (g (11 + 4 * k)) hk0.1 (by omega)
    rcases ii with c | c | c | c | c | c | c | c | c
    · exact absurd c k0
    · exact absurd c k1
    · rw [c]; rfl
    · exact absurd c k3
    · rw [c]; rfl
    · exact absurd c k5
    · exact absurd (congrArg Int32.toInt c) (by rw [zt_6]; omega)
    · exact absurd (congrArg Int32.toInt c) (by rw [zt_7]; omega)
    · exact absurd (congrArg Int32.toInt c) (by rw [zt_8]; omega)
  · have eR : sRw g k = if g (11 + 4 * k) = 4 then 2 else 0 := by unfold sRw; rw [if_neg hz]
    refine zk_e (r_of h1 ha k8 zt_0 (by decide)) ?_
    unfold B_X7_spoils_25
    refine zk_ite (fun k4 => ?_) (fun k4 => ?_)
    · exact fin 2 τ h1 (by rw [eR, if_pos (show g (11 + 4 * k) = 4 from k4)])
    · exact fin 0 τ h1 (by rw [eR, if_neg (show ¬ g (11 + 4 * k) = 4 from k4)])
theorem sPay_c {h : Nat → Int32} {F : Int32} (e2 : h 2 = g 2) (e8 : h 8 = g 8) (es : ∀ j, 11 ≤ j → h j = g j) : ∀ k, sPay h F k = sPay g F k := by
  intro k
  induction k with
  | zero => rfl
  | succ k ih =>
    show (if sShd h F (h (11 + 4 * k + 1)) = 0 then sPay h F k else sPay h F k + h (11 + 4 * k + 3)) = (if sShd g F (g (11 + 4 * k + 1)) = 0 then sPay g F k else sPay g F k + g (11 + 4 * k + 3))
    rw [sShd_c e2 e8, es _ (by omega), es (11 + 4 * k + 3) (by omega), ih]
theorem r_payNow (h1 : τ 1 = g) (o : gOK g) : zk (f_X7_payNow τ) (fun r s => τ = s ∧ r = sPay g (g 7) (g 0).toNatClampNeg) := by
  obtain ⟨hN, _⟩ := id o.1
  have e0 := zt_0
  have e1 := zt_1
  have nn := ztn hN.1
  unfold f_X7_payNow L_X7_payNow_4
  refine zl_II (fun (x1 x2 : Int32) (s : zg_S) => τ = s ∧ ∃ i : Nat, x2.toInt = i ∧ (i : Int) ≤ (g 0).toInt ∧ x1 = sPay g (g 7) i) (fun (_ x2 : Int32) (_ : zg_S) => (9 - x2.toInt).toNat) ?_ zfu _ _ _ ⟨rfl, 0, e0, by omega, rfl⟩ (by unfold zfu; omega)
  intro rec x1 x2 s hI ih
  obtain ⟨rfl, i, hi, hi2, hx⟩ := hI
  unfold B_X7_payNow_4
  rw [show τ 1 0 = g 0 from congrFun h1 0]
  refine zk_ite (fun hle => ?_) (fun hlt => ?_)
  · have gl := zle hle
    exact zk_some ⟨rfl, by rw [show (g 0).toNatClampNeg = i by omega]; exact hx⟩
  · have gl := znle hlt
    have ex := zTe (zTadd (zTs x2) (zTl zt_1) (by omega) (by omega))
    have nx7 : ∀ y : Int32, x1 + y = sPay g (g 7) (i + 1) → zk (B_X7_payNow_33 rec x2 y x1 τ) (fun r s => τ = s ∧ r = sPay g (g 7) (g 0).toNatClampNeg) := fun y hy => by
      unfold B_X7_payNow_33
      exact ih _ (x2 + 1) τ ⟨rfl, i + 1, by rw [ex, hi]; rfl, by omega, hy⟩ (by show (9 - (x2 + 1).toInt).toNat < (9 - x2.toInt).toNat; rw [ex]; omega)
    have eP : sPay g (g 7) (i + 1) = if sShd g (g 7) (g (11 + 4 * i + 1)) = 0 then sPay g (g 7) i else sPay g (g 7) i + g (11 + 4 * i + 3) := rfl
    refine zk_e (r_shaded h1 o hi (by omega)) ?_
    refine zk_ite (fun hd => ?_) (fun hd => ?_)
    · exact nx7 0 (by rw [eP, if_pos hd, hx]; exact Int32.add_zero _)
    · refine zk_e (r_of h1 hi (by omega) zt_3 (by decide)) ?_
      exact nx7 _ (by rw [eP, if_neg hd, hx])
def sBv (mv : Int32) : Int32 := if mv = 0 then 0 else if mv = 1 then -1 else 1
theorem sTo_r (hB : gB g) (mv : Int32) (hm : mv = 0 ∨ mv = 1 ∨ mv = 2) : sHeld (g 7 + sBv mv) 0 (12 - g 8) = sTo g mv := by
  obtain ⟨_, _, h8, h7, _, _⟩ := id hB
  have e0 := zt_0
  have e1 := zt_1
  have em := zt_m1
  have e12 := g12 hB
  have ii : ∀ a b : Int32, a.toInt = b.toInt → a = b := fun a b h => Int32.toInt_inj.mp h
  rcases hm with rfl | rfl | rfl
  · show sHeld (g 7 + 0) 0 (12 - g 8) = g 7
    rw [Int32.add_zero, sHeld_lo (nlt_i (by omega))]
    by_cases f : (0 : Int32) < g 7
    · rw [if_pos f]
    · rw [if_neg f]
      have := znlt f
      exact ii _ _ (by omega)
  · show sHeld (g 7 + (-1)) 0 (12 - g 8) = if (g 7 - 1) < 0 then 0 else g 7 - 1
    have a := zTe (zTsub (zTs (g 7)) (zTl zt_1) (by omega) (by omega))
    have b := zTe (zTadd (zTs (g 7)) (zTl zt_m1) (by omega) (by omega))
    generalize g 7 + (-1) = u at b ⊢
    generalize g 7 - 1 = v at a ⊢
    generalize 12 - g 8 = w at e12 ⊢
    rw [sHeld_lo (nlt_i (by omega))]
    by_cases f : (0 : Int32) < u
    · rw [if_pos f]
      have := zlt f
      rw [if_neg (nlt_i (by omega))]
      exact ii _ _ (by omega)
    · rw [if_neg f]
      have := znlt f
      by_cases d : v < 0
      · rw [if_pos d]
      · rw [if_neg d]
        have := znlt d
        exact ii _ _ (by omega)
  · show sHeld (g 7 + 1) 0 (12 - g 8) = if 12 - g 8 < g 7 + 1 then 12 - g 8 else g 7 + 1
    have b := zTe (zTadd (zTs (g 7)) (zTl zt_1) (by omega) (by omega))
    generalize g 7 + 1 = u at b ⊢
    generalize 12 - g 8 = w at e12 ⊢
    by_cases d : w < u
    · rw [sHeld_hi d, if_pos d]
      by_cases f : (0 : Int32) < w
      · rw [if_pos f]
      · have := znlt f
        omega
    · rw [sHeld_lo d, if_neg d]
      by_cases f : (0 : Int32) < u
      · rw [if_pos f]
      · have := znlt f
        omega
theorem r_holds (h1 : τ 1 = g) (h8 : 1 ≤ (g 8).toInt ∧ (g 8).toInt ≤ 6) : f_X7_holds τ = some (0, zg_up τ 1 7 (sHeld (g 7) 0 (12 - g 8))) := by
  have e12 := zt_12
  have e := zTe (zTsub (zTl zt_12) (zTs (g 8)) (by omega) (by omega))
  unfold f_X7_holds
  rw [h1, r_within _ _ _ (by rw [e]; omega)]
  rfl
theorem r_payIf (h1 : τ 1 = g) (o : gOK g) (mv : Int32) (hm : mv = 0 ∨ mv = 1 ∨ mv = 2) : zk (f_X7_payIf (sBv mv) τ) (fun r s => r = sPy g mv ∧ s 1 = g ∧ ∀ p, p ≠ 1 → s p = τ p) := by
  obtain ⟨_, _, h8, _⟩ := id o.1
  unfold f_X7_payIf
  rw [h1]
  refine zk_let (fun s1 q1 => ?_)
  have r1 : s1 1 = upd g 7 (g 7 + sBv mv) := by rw [q1, ← h1]; exact zg_row_eq
  have f1 : ∀ p, p ≠ 1 → s1 p = τ p := fun p hp => by rw [q1]; exact zg_row_ne hp
  have hh := r_holds r1 (by rw [pk_un (by decide)]; exact h8)
  rw [pk_us, pk_un (by decide), sTo_r o.1 mv hm] at hh
  refine zk_e hh ?_
  have r2 : zg_up s1 1 7 (sTo g mv) 1 = upd g 7 (sTo g mv) := by
    refine zg_row_eq.trans ?_
    rw [r1, upd_upd]
  have o2 := o.first (sTo_b o.1 mv)
  refine zk_call (r_payNow r2 o2) (fun r s hp => ?_)
  obtain ⟨rfl, hr⟩ := hp
  refine zk_let (fun s3 q3 => ?_)
  refine zk_some ⟨?_, ?_, fun p hp => ?_⟩
  · rw [hr, pk_us, pk_un (by decide)]
    exact sPay_c (pk_un (by decide)) (pk_un (by decide)) (fun j hj => pk_un (by omega)) _
  · rw [q3]
    refine zg_row_eq.trans ?_
    rw [r2, upd_upd]
    exact upd_self rfl
  · rw [q3]
    exact (zg_row_ne hp).trans ((zg_row_ne hp).trans (f1 p hp))
end
