/-! the levels -/
def lvl (a : Int32) : Int32 := (if a = 38 then 1 else (if a = 42 then 4 else (if a = 43 then 3 else (if a = 45 then 3 else (if a = 47 then 4 else (if a = 60 then 2 else (if a = 61 then 2 else (if a = 62 then 2 else (if a = 124 then 0 else -1000000005)))))))))
theorem e_lv (a : Int32) (σ : zg_S) : f_X1_levelOf a σ = some (lvl a, σ) := by
  unfold f_X1_levelOf lvl
  by_cases h0 : a = 38
  · rw [if_pos h0, if_pos h0]
  rw [if_neg h0, if_neg h0]
  by_cases h1 : a = 42
  · rw [if_pos h1, if_pos h1]
  rw [if_neg h1, if_neg h1]
  by_cases h2 : a = 43
  · rw [if_pos h2, if_pos h2]
  rw [if_neg h2, if_neg h2]
  by_cases h3 : a = 45
  · rw [if_pos h3, if_pos h3]
  rw [if_neg h3, if_neg h3]
  by_cases h4 : a = 47
  · rw [if_pos h4, if_pos h4]
  rw [if_neg h4, if_neg h4]
  by_cases h5 : a = 60
  · rw [if_pos h5, if_pos h5]
  rw [if_neg h5, if_neg h5]
  by_cases h6 : a = 61
  · rw [if_pos h6, if_pos h6]
  rw [if_neg h6, if_neg h6]
  by_cases h7 : a = 62
  · rw [if_pos h7, if_pos h7]
  rw [if_neg h7, if_neg h7]
  by_cases h8 : a = 124
  · rw [if_pos h8, if_pos h8]
  rw [if_neg h8, if_neg h8]
theorem lvl_n {a : Int32} (h : ¬ sSg a) : lvl a = -1000000005 := by
  unfold sSg at h
  unfold lvl
  rw [if_neg (fun z => h (Or.inl z)), if_neg (fun z => h (Or.inr (Or.inl z))), if_neg (fun z => h (Or.inr (Or.inr (Or.inl z)))), if_neg (fun z => h (Or.inr (Or.inr (Or.inr (Or.inl z))))), if_neg (fun z => h (Or.inr (Or.inr (Or.inr (Or.inr (Or.inl z)))))), if_neg (fun z => h (Or.inr (Or.inr (Or.inr (Or.inr (Or.inr (Or.inl z))))))), if_neg (fun z => h (Or.inr (Or.inr (Or.inr (Or.inr (Or.inr (Or.inr (Or.inl z)))))))), if_neg (fun z => h (Or.inr (Or.inr (Or.inr (Or.inr (Or.inr (Or.inr (Or.inr (Or.inl z))))))))), if_neg (fun z => h (Or.inr (Or.inr (Or.inr (Or.inr (Or.inr (Or.inr (Or.inr (Or.inr (z))))))))))]
theorem lv0 (a : Int32) : lvl a = 0 ↔ (a = 124) := by
  by_cases h : sSg a
  · rcases h with rfl | rfl | rfl | rfl | rfl | rfl | rfl | rfl | rfl <;> decide
  · rw [lvl_n h]
    refine ⟨fun z => absurd z (by decide), fun z => absurd ?_ h⟩
    unfold sSg
    exact Or.inr (Or.inr (Or.inr (Or.inr (Or.inr (Or.inr (Or.inr (Or.inr (z))))))))
theorem lv1 (a : Int32) : lvl a = 1 ↔ (a = 38) := by
  by_cases h : sSg a
  · rcases h with rfl | rfl | rfl | rfl | rfl | rfl | rfl | rfl | rfl <;> decide
  · rw [lvl_n h]
    refine ⟨fun z => absurd z (by decide), fun z => absurd ?_ h⟩
    unfold sSg
    exact Or.inl z
theorem lv2 (a : Int32) : lvl a = 2 ↔ (a = 60 ∨ a = 61 ∨ a = 62) := by
  by_cases h : sSg a
  · rcases h with rfl | rfl | rfl | rfl | rfl | rfl | rfl | rfl | rfl <;> decide
  · rw [lvl_n h]
    refine ⟨fun z => absurd z (by decide), fun z => absurd ?_ h⟩
    unfold sSg
    rcases z with z | z | z
    · exact Or.inr (Or.inr (Or.inr (Or.inr (Or.inr (Or.inl z)))))
    · exact Or.inr (Or.inr (Or.inr (Or.inr (Or.inr (Or.inr (Or.inl z))))))
    · exact Or.inr (Or.inr (Or.inr (Or.inr (Or.inr (Or.inr (Or.inr (Or.inl z)))))))
theorem lv3 (a : Int32) : lvl a = 3 ↔ (a = 43 ∨ a = 45) := by
  by_cases h : sSg a
  · rcases h with rfl | rfl | rfl | rfl | rfl | rfl | rfl | rfl | rfl <;> decide
  · rw [lvl_n h]
    refine ⟨fun z => absurd z (by decide), fun z => absurd ?_ h⟩
    unfold sSg
    rcases z with z | z
    · exact Or.inr (Or.inr (Or.inl z))
    · exact Or.inr (Or.inr (Or.inr (Or.inl z)))
theorem lv4 (a : Int32) : lvl a = 4 ↔ (a = 42 ∨ a = 47) := by
  by_cases h : sSg a
  · rcases h with rfl | rfl | rfl | rfl | rfl | rfl | rfl | rfl | rfl <;> decide
  · rw [lvl_n h]
    refine ⟨fun z => absurd z (by decide), fun z => absurd ?_ h⟩
    unfold sSg
    rcases z with z | z
    · exact Or.inr (Or.inl z)
    · exact Or.inr (Or.inr (Or.inr (Or.inr (Or.inl z))))
theorem lvS {a z : Int32} (h : lvl a = z) (hz : ¬ z = -1000000005) : sSg a := by
  by_cases c : sSg a
  · exact c
  · exact absurd (h.symm.trans (lvl_n c)) hz
theorem zl2 {bot : Int32 → zg_S → Option (Int32 × zg_S)} {F : (Int32 → zg_S → Option (Int32 × zg_S)) → Int32 → zg_S → Option (Int32 × zg_S)} {bot' : zg_S → Option (Int32 × zg_S)} {F' : (zg_S → Option (Int32 × zg_S)) → zg_S → Option (Int32 × zg_S)} {P : Int32 → zg_S → Int32 → zg_S → Prop} (I : Int32 → zg_S → zg_S → Prop) (μ : zg_S → Nat) (h : ∀ (rec : Int32 → zg_S → Option (Int32 × zg_S)) (rec' : zg_S → Option (Int32 × zg_S)) (x : Int32) (s t : zg_S), I x s t → (∀ (y : Int32) (s' t' : zg_S), I y s' t' → μ t' < μ t → z2 (rec y s') (rec' t') P) → z2 (F rec x s) (F' rec' t) P) : ∀ (n n' : Nat) (x : Int32) (s t : zg_S), I x s t → μ t < n → μ t < n' → z2 (zfix bot F n x s) (zfix bot' F' n' t) P := by
  intro n
  induction n with
  | zero => intro n' x s t _ hm; omega
  | succ n ih =>
    intro n' x s t hI hm hm'
    cases n' with
    | zero => omega
    | succ n' => exact h (zfix bot F n) (zfix bot' F' n') x s t hI (fun y s' t' hI' hlt => ih n' y s' t' hI' (by omega) (by omega))
/-- one look of the class's loop -/
theorem cB {key z x : Int32} {σ τ : zg_S} {rec : Nat → Int32 → zg_S → Option (Int32 × zg_S)} {rc : Int32 → zg_S → Option (Int32 × zg_S)} {o' : Option (Int32 × zg_S)} {P : Int32 → zg_S → Int32 → zg_S → Prop} (h : PR key σ τ) (hz : ¬ (-1000000005 : Int32) = z) (hx : x.toInt ≤ (τ 0 15).toInt) (stop : ¬ (τ 0 17 = 3 ∧ lvl (τ 0 19) = z) → z2 (some (1, σ)) o' P) (go : τ 0 17 = 3 → lvl (τ 0 19) = z → x.toInt < 96 → z2 (zbd (f_X1_advance σ) (fun _ s => zbd (rec 0 (z + 1) s) (fun r s => if r = 0 then some (0, s) else zbd (f_X5_addStep 8 ((-1000) - τ 0 19) s) (fun _ s => if z = 2 then some (1, s) else rc (x + 1) s)))) o' P) : z2 (B_X1_readLevel_24 rec z rc x σ) o' P := by
  have e96 := zt_96
  have hps := h.1
  have f14 : 0 ≤ (τ 0 14).toInt ∧ (τ 0 14).toInt ≤ 96 := hps.1 0 14
  have h16 := hps.2.2.2.1
  unfold B_X1_readLevel_24
  refine z2_iL (fun hc => ?_) (fun hc => ?_)
  · have g := zle hc
    refine stop (fun w => ?_)
    have hlt := hps.2.2.2.2.1.resolve_left (by rw [w.1]; decide)
    omega
  · have g := znle hc
    refine z2_eL (c_sign h) (z2_eL (e_lv _ σ) ?_)
    by_cases c3 : τ 0 17 = 3
    · rw [if_pos c3]
      by_cases cl' : lvl (τ 0 19) = z
      · exact z2_pL cl' (go c3 cl' (by omega))
      · exact z2_nL cl' (stop (fun w => cl' w.2))
    · rw [if_neg c3]
      refine z2_nL (fun w => hz ?_) (stop (fun w => c3 w.1))
      rw [← w]
      decide
/-- a sign, one more piece, and the step that joins -/
theorem z2_join {key z c : Int32} {tag dc dr : Nat} {σ τ τ0 : zg_S} {P : Int32 → zg_S → Int32 → zg_S → Prop} {k k' : Int32 → zg_S → Option (Int32 × zg_S)} (hk : KY key) (h : PR key σ τ) (nd : ND τ0 τ) (h3 : τ 0 17 = 3) (hc : sSg c) (ih : LVL dc dr z tag) (f1 : 6 - (tag : Int) + mN τ0 ≤ dr) (f2 : 8 - (tag : Int) + mN τ0 ≤ dc) (h0 : ∀ s t, s 7 4 = t 0 15 → P 0 s 0 t) (hn : ∀ r s r' t, PR key s t → ND τ0 t → (τ 0 15).toInt < (t 0 15).toInt → z2 (k r s) (k' r' t) P) : z2 (zbd (f_X1_advance σ) (fun _ s => zbd (G_rd dc 0 z s) (fun r s => if r = 0 then some (0, s) else zbd (f_X5_addStep 8 ((-1000) - c) s) k))) (zbd (f_X7_nextToken τ) (fun _ t => zbd (G_mp dr tag key t) (fun r t => if r = 0 then some (0, t) else zbd (f_X7_step 2 c t) k'))) P := by
  obtain ⟨n1, n2, n3, n20, n21⟩ := nd
  have hlt := h.1.2.2.2.2.1.resolve_left (by rw [h3]; decide)
  have l22 := h.1.2.2.2.2.2.1
  refine z2_nx h (fun _ s1 _ t1 p1 k1 g1 => ?_)
  have g22 := congrArg Int32.toInt (k1.2 22 (by decide))
  have em : mN t1 = mN τ0 := mN_eq ((k1.2 20 (by decide)).trans n20) ((k1.2 21 (by decide)).trans n21)
  refine z2_cc (ih key s1 t1 hk p1 (by rw [em]; exact f1) (by rw [em]; exact f2)) (fun r s2 r' t2 hq => ?_)
  obtain ⟨rfl, hq⟩ := hq
  rcases hq with ⟨rfl, hB⟩ | ⟨rfl, p2, m1, m2, m3, m20, m21⟩
  · exact z2_pL rfl (z2_pR rfl (z2_some (h0 s2 t2 hB)))
  · refine z2_nL (by decide) (z2_nR (by decide) ?_)
    exact z2_step (τ0 := τ0) p2 (Or.inr (Or.inr (Or.inr ⟨rfl, hc, rfl⟩))) (by omega) (by omega) (by omega) (by omega) (m20.trans ((k1.2 20 (by decide)).trans n20)) (m21.trans ((k1.2 21 (by decide)).trans n21)) (fun r s3 r' t3 p3 n3' e3 => hn r s3 r' t3 p3 n3' (by rw [e3]; omega))
theorem ND.rf {τ : zg_S} : ND τ τ := ⟨Int.le_refl _, by omega, Int.le_refl _, rfl, rfl⟩
theorem lv_either {dc dr : Nat} (ih : LVL dc dr 1 1) : LVL (dc + 1) (dr + 1) 0 0 := by
  intro key σ τ hk h hr hc
  have e0 := zt_0
  have e1 := zt_1
  have hz1 : (0 : Int32) + 1 = 1 := by decide
  have hm : ¬ (-1000000005 : Int32) = 0 := by decide
  show z2 (f_X1_readLevel (G_rd dc) 0 σ) (f_X7_either (G_mp dr) key τ) (RQ key τ)
  unfold f_X1_readLevel f_X7_either
  refine z2_pL (by decide) ?_
  rw [hz1]
  refine z2_cc (ih key σ τ hk h (by omega) (by omega)) (fun r s r' t hq => ?_)
  obtain ⟨rfl, hq⟩ := hq
  rcases hq with ⟨rfl, hB⟩ | ⟨rfl, p1, d1⟩
  · exact z2_pL rfl (z2_pR rfl (z2_some ⟨rfl, Or.inl ⟨rfl, hB⟩⟩))
  refine z2_nL (by decide) (z2_nR (by decide) ?_)
  have f15 : 0 ≤ (t 0 15).toInt ∧ (t 0 15).toInt ≤ 96 := p1.1.1 0 15
  unfold L_X1_readLevel_24 L_X7_either_10
  refine zl2 (fun x s t => PR key s t ∧ ND τ t ∧ 0 ≤ x.toInt ∧ x.toInt ≤ (t 0 15).toInt) (fun t => (97 - (t 0 15).toInt).toNat) ?_ zfu zfu 0 s t ⟨p1, d1, by omega, by omega⟩ (by unfold zfu; show (97 - (t 0 15).toInt).toNat < 100000; omega) (by unfold zfu; show (97 - (t 0 15).toInt).toNat < 100000; omega)
  intro rec rec' x u v hI ihl
  obtain ⟨pu, du, x0, x1⟩ := hI
  have f15 : 0 ≤ (v 0 15).toInt ∧ (v 0 15).toInt ≤ 96 := pu.1.1 0 15
  unfold B_X7_either_10
  refine cB pu hm x1 (fun hs => ?_) (fun h3 hl hx => ?_)
  · exact z2_eR (e_isSign0 (fun w => hs ⟨w.1, (lv0 _).mpr w.2⟩)) (z2_pR rfl (z2_some ⟨rfl, Or.inr ⟨rfl, pu, du⟩⟩))
  · have h19 := (lv0 _).mp hl
    refine z2_eR (e_isSign1 h3 h19) (z2_nR (by decide) ?_)
    rw [h19, hz1]
    exact z2_join (τ0 := τ) hk pu du h3 (by unfold sSg; decide) ih (by omega) (by omega) (fun s t hB => ⟨rfl, Or.inl ⟨rfl, hB⟩⟩) (fun r s r' t ps dn hlt => z2_nL (by decide) (ihl (x + 1) s t ⟨ps, dn, by rw [zTe (zTadd (zTs x) (zTl zt_1) (by omega) (by omega))]; omega, by rw [zTe (zTadd (zTs x) (zTl zt_1) (by omega) (by omega))]; omega⟩ (by show (97 - (t 0 15).toInt).toNat < (97 - (v 0 15).toInt).toNat; omega)))
theorem lv_both {dc dr : Nat} (ih : LVL dc dr 2 2) : LVL (dc + 1) (dr + 1) 1 1 := by
  intro key σ τ hk h hr hc
  have e0 := zt_0
  have e1 := zt_1
  have hz1 : (1 : Int32) + 1 = 2 := by decide
  have hm : ¬ (-1000000005 : Int32) = 1 := by decide
  show z2 (f_X1_readLevel (G_rd dc) 1 σ) (f_X7_both (G_mp dr) key τ) (RQ key τ)
  unfold f_X1_readLevel f_X7_both
  refine z2_pL (by decide) ?_
  rw [hz1]
  refine z2_cc (ih key σ τ hk h (by omega) (by omega)) (fun r s r' t hq => ?_)
  obtain ⟨rfl, hq⟩ := hq
  rcases hq with ⟨rfl, hB⟩ | ⟨rfl, p1, d1⟩
  · exact z2_pL rfl (z2_pR rfl (z2_some ⟨rfl, Or.inl ⟨rfl, hB⟩⟩))
  refine z2_nL (by decide) (z2_nR (by decide) ?_)
  have f15 : 0 ≤ (t 0 15).toInt ∧ (t 0 15).toInt ≤ 96 := p1.1.1 0 15
  unfold L_X1_readLevel_24 L_X7_both_10
  refine zl2 (fun x s t => PR key s t ∧ ND τ t ∧ 0 ≤ x.toInt ∧ x.toInt ≤ (t 0 15).toInt) (fun t => (97 - (t 0 15).toInt).toNat) ?_ zfu zfu 0 s t ⟨p1, d1, by omega, by omega⟩ (by unfold zfu; show (97 - (t 0 15).toInt).toNat < 100000; omega) (by unfold zfu; show (97 - (t 0 15).toInt).toNat < 100000; omega)
  intro rec rec' x u v hI ihl
  obtain ⟨pu, du, x0, x1⟩ := hI
  have f15 : 0 ≤ (v 0 15).toInt ∧ (v 0 15).toInt ≤ 96 := pu.1.1 0 15
  unfold B_X7_both_10
  refine cB pu hm x1 (fun hs => ?_) (fun h3 hl hx => ?_)
  · exact z2_eR (e_isSign0 (fun w => hs ⟨w.1, (lv1 _).mpr w.2⟩)) (z2_pR rfl (z2_some ⟨rfl, Or.inr ⟨rfl, pu, du⟩⟩))
  · have h19 := (lv1 _).mp hl
    refine z2_eR (e_isSign1 h3 h19) (z2_nR (by decide) ?_)
    rw [h19, hz1]
    exact z2_join (τ0 := τ) hk pu du h3 (by unfold sSg; decide) ih (by omega) (by omega) (fun s t hB => ⟨rfl, Or.inl ⟨rfl, hB⟩⟩) (fun r s r' t ps dn hlt => z2_nL (by decide) (ihl (x + 1) s t ⟨ps, dn, by rw [zTe (zTadd (zTs x) (zTl zt_1) (by omega) (by omega))]; omega, by rw [zTe (zTadd (zTs x) (zTl zt_1) (by omega) (by omega))]; omega⟩ (by show (97 - (t 0 15).toInt).toNat < (97 - (v 0 15).toInt).toNat; omega)))
theorem lv_sum {dc dr : Nat} (ih : LVL dc dr 4 4) : LVL (dc + 1) (dr + 1) 3 3 := by
  intro key σ τ hk h hr hc
  have e0 := zt_0
  have e1 := zt_1
  have hz1 : (3 : Int32) + 1 = 4 := by decide
  have hm : ¬ (-1000000005 : Int32) = 3 := by decide
  show z2 (f_X1_readLevel (G_rd dc) 3 σ) (f_X7_sum (G_mp dr) key τ) (RQ key τ)
  unfold f_X1_readLevel f_X7_sum
  refine z2_pL (by decide) ?_
  rw [hz1]
  refine z2_cc (ih key σ τ hk h (by omega) (by omega)) (fun r s r' t hq => ?_)
  obtain ⟨rfl, hq⟩ := hq
  rcases hq with ⟨rfl, hB⟩ | ⟨rfl, p1, d1⟩
  · exact z2_pL rfl (z2_pR rfl (z2_some ⟨rfl, Or.inl ⟨rfl, hB⟩⟩))
  refine z2_nL (by decide) (z2_nR (by decide) ?_)
  have f15 : 0 ≤ (t 0 15).toInt ∧ (t 0 15).toInt ≤ 96 := p1.1.1 0 15
  unfold L_X1_readLevel_24 L_X7_sum_10
  refine zl2 (fun x s t => PR key s t ∧ ND τ t ∧ 0 ≤ x.toInt ∧ x.toInt ≤ (t 0 15).toInt) (fun t => (97 - (t 0 15).toInt).toNat) ?_ zfu zfu 0 s t ⟨p1, d1, by omega, by omega⟩ (by unfold zfu; show (97 - (t 0 15).toInt).toNat < 100000; omega) (by unfold zfu; show (97 - (t 0 15).toInt).toNat < 100000; omega)
  intro rec rec' x u v hI ihl
  obtain ⟨pu, du, x0, x1⟩ := hI
  have f15 : 0 ≤ (v 0 15).toInt ∧ (v 0 15).toInt ≤ 96 := pu.1.1 0 15
  unfold B_X7_sum_10
  have hj : v 0 17 = 3 → lvl (v 0 19) = 3 → x.toInt < 96 → z2 (zbd (f_X1_advance u) (fun _ s => zbd (G_rd dc 0 (3 + 1) s) (fun r s => if r = 0 then some (0, s) else zbd (f_X5_addStep 8 ((-1000) - v 0 19) s) (fun _ s => if (3 : Int32) = 2 then some (1, s) else rec (x + 1) s)))) (B_X7_sum_28 (G_mp dr) key rec' v) (RQ key τ) := fun h3 hl hx => by
    unfold B_X7_sum_28
    rw [hz1]
    exact z2_join (τ0 := τ) hk pu du h3 (lvS hl (by decide)) ih (by omega) (by omega) (fun s t hB => ⟨rfl, Or.inl ⟨rfl, hB⟩⟩) (fun r s r' t ps dn hlt => z2_nL (by decide) (ihl (x + 1) s t ⟨ps, dn, by rw [zTe (zTadd (zTs x) (zTl zt_1) (by omega) (by omega))]; omega, by rw [zTe (zTadd (zTs x) (zTl zt_1) (by omega) (by omega))]; omega⟩ (by show (97 - (t 0 15).toInt).toNat < (97 - (v 0 15).toInt).toNat; omega)))
  refine cB pu hm x1 (fun hs => ?_) (fun h3 hl hx => ?_)
  · refine z2_eR (e_isSign0 (fun w => hs ⟨w.1, (lv3 _).mpr (Or.inl w.2)⟩)) (z2_pR rfl ?_)
    exact z2_eR (e_isSign0 (fun w => hs ⟨w.1, (lv3 _).mpr (Or.inr w.2)⟩)) (z2_pR rfl (z2_some ⟨rfl, Or.inr ⟨rfl, pu, du⟩⟩))
  · rcases (lv3 _).mp hl with h19 | h19
    · exact z2_eR (e_isSign1 h3 h19) (z2_nR (by decide) (hj h3 hl hx))
    · refine z2_eR (e_isSign0 (fun w => absurd (h19.symm.trans w.2) (by decide))) (z2_pR rfl ?_)
      exact z2_eR (e_isSign1 h3 h19) (z2_nR (by decide) (hj h3 hl hx))
theorem lv_term {dc dr : Nat} (ih : LVL dc dr 5 5) : LVL (dc + 1) (dr + 1) 4 4 := by
  intro key σ τ hk h hr hc
  have e0 := zt_0
  have e1 := zt_1
  have hz1 : (4 : Int32) + 1 = 5 := by decide
  have hm : ¬ (-1000000005 : Int32) = 4 := by decide
  show z2 (f_X1_readLevel (G_rd dc) 4 σ) (f_X7_term (G_mp dr) key τ) (RQ key τ)
  unfold f_X1_readLevel f_X7_term
  refine z2_pL (by decide) ?_
  rw [hz1]
  refine z2_cc (ih key σ τ hk h (by omega) (by omega)) (fun r s r' t hq => ?_)
  obtain ⟨rfl, hq⟩ := hq
  rcases hq with ⟨rfl, hB⟩ | ⟨rfl, p1, d1⟩
  · exact z2_pL rfl (z2_pR rfl (z2_some ⟨rfl, Or.inl ⟨rfl, hB⟩⟩))
  refine z2_nL (by decide) (z2_nR (by decide) ?_)
  have f15 : 0 ≤ (t 0 15).toInt ∧ (t 0 15).toInt ≤ 96 := p1.1.1 0 15
  unfold L_X1_readLevel_24 L_X7_term_10
  refine zl2 (fun x s t => PR key s t ∧ ND τ t ∧ 0 ≤ x.toInt ∧ x.toInt ≤ (t 0 15).toInt) (fun t => (97 - (t 0 15).toInt).toNat) ?_ zfu zfu 0 s t ⟨p1, d1, by omega, by omega⟩ (by unfold zfu; show (97 - (t 0 15).toInt).toNat < 100000; omega) (by unfold zfu; show (97 - (t 0 15).toInt).toNat < 100000; omega)
  intro rec rec' x u v hI ihl
  obtain ⟨pu, du, x0, x1⟩ := hI
  have f15 : 0 ≤ (v 0 15).toInt ∧ (v 0 15).toInt ≤ 96 := pu.1.1 0 15
  unfold B_X7_term_10
  have hj : v 0 17 = 3 → lvl (v 0 19) = 4 → x.toInt < 96 → z2 (zbd (f_X1_advance u) (fun _ s => zbd (G_rd dc 0 (4 + 1) s) (fun r s => if r = 0 then some (0, s) else zbd (f_X5_addStep 8 ((-1000) - v 0 19) s) (fun _ s => if (4 : Int32) = 2 then some (1, s) else rec (x + 1) s)))) (B_X7_term_28 (G_mp dr) key rec' v) (RQ key τ) := fun h3 hl hx => by
    unfold B_X7_term_28
    rw [hz1]
    exact z2_join (τ0 := τ) hk pu du h3 (lvS hl (by decide)) ih (by omega) (by omega) (fun s t hB => ⟨rfl, Or.inl ⟨rfl, hB⟩⟩) (fun r s r' t ps dn hlt => z2_nL (by decide) (ihl (x + 1) s t ⟨ps, dn, by rw [zTe (zTadd (zTs x) (zTl zt_1) (by omega) (by omega))]; omega, by rw [zTe (zTadd (zTs x) (zTl zt_1) (by omega) (by omega))]; omega⟩ (by show (97 - (t 0 15).toInt).toNat < (97 - (v 0 15).toInt).toNat; omega)))
  refine cB pu hm x1 (fun hs => ?_) (fun h3 hl hx => ?_)
  · refine z2_eR (e_isSign0 (fun w => hs ⟨w.1, (lv4 _).mpr (Or.inl w.2)⟩)) (z2_pR rfl ?_)
    exact z2_eR (e_isSign0 (fun w => hs ⟨w.1, (lv4 _).mpr (Or.inr w.2)⟩)) (z2_pR rfl (z2_some ⟨rfl, Or.inr ⟨rfl, pu, du⟩⟩))
  · rcases (lv4 _).mp hl with h19 | h19
    · exact z2_eR (e_isSign1 h3 h19) (z2_nR (by decide) (hj h3 hl hx))
    · refine z2_eR (e_isSign0 (fun w => absurd (h19.symm.trans w.2) (by decide))) (z2_pR rfl ?_)
      exact z2_eR (e_isSign1 h3 h19) (z2_nR (by decide) (hj h3 hl hx))
theorem lv_test {dc dr : Nat} (ih : LVL dc dr 3 3) : LVL (dc + 1) (dr + 1) 2 2 := by
  intro key σ τ hk h hr hc
  have e0 := zt_0
  have e1 := zt_1
  have hz1 : (2 : Int32) + 1 = 3 := by decide
  have hm : ¬ (-1000000005 : Int32) = 2 := by decide
  show z2 (f_X1_readLevel (G_rd dc) 2 σ) (f_X7_test (G_mp dr) key τ) (RQ key τ)
  unfold f_X1_readLevel f_X7_test
  refine z2_pL (by decide) ?_
  rw [hz1]
  refine z2_cc (ih key σ τ hk h (by omega) (by omega)) (fun r s r' t hq => ?_)
  obtain ⟨rfl, hq⟩ := hq
  rcases hq with ⟨rfl, hB⟩ | ⟨rfl, p1, d1⟩
  · exact z2_pL rfl (z2_pR rfl (z2_some ⟨rfl, Or.inl ⟨rfl, hB⟩⟩))
  refine z2_nL (by decide) (z2_nR (by decide) ?_)
  have f15 : 0 ≤ (t 0 15).toInt ∧ (t 0 15).toInt ≤ 96 := p1.1.1 0 15
  obtain ⟨m, hm1⟩ : ∃ m, zfu = m + 1 := ⟨99999, by unfold zfu; rfl⟩
  rw [hm1]
  show z2 (B_X1_readLevel_24 (G_rd dc) 2 (L_X1_readLevel_24 (G_rd dc) 2 m) 0 s) _ _
  have hj : t 0 17 = 3 → lvl (t 0 19) = 2 → z2 (zbd (f_X1_advance s) (fun _ s => zbd (G_rd dc 0 (2 + 1) s) (fun r s => if r = 0 then some (0, s) else zbd (f_X5_addStep 8 ((-1000) - t 0 19) s) (fun _ s => if (2 : Int32) = 2 then some (1, s) else L_X1_readLevel_24 (G_rd dc) 2 m (0 + 1) s)))) (B_X7_test_37 (G_mp dr) key t) (RQ key τ) := fun h3 hl => by
    unfold B_X7_test_37
    rw [hz1]
    exact z2_join (τ0 := τ) hk p1 d1 h3 (lvS hl (by decide)) ih (by omega) (by omega) (fun s t hB => ⟨rfl, Or.inl ⟨rfl, hB⟩⟩) (fun r s r' t ps dn hlt => z2_pL rfl (z2_some ⟨rfl, Or.inr ⟨rfl, ps, dn⟩⟩))
  refine cB p1 hm (by omega) (fun hs => ?_) (fun h3 hl _ => ?_)
  · refine z2_eR (e_isSign0 (fun w => hs ⟨w.1, (lv2 _).mpr (Or.inl w.2)⟩)) (z2_pR rfl ?_)
    refine z2_eR (e_isSign0 (fun w => hs ⟨w.1, (lv2 _).mpr (Or.inr (Or.inl w.2))⟩)) (z2_pR rfl ?_)
    exact z2_eR (e_isSign0 (fun w => hs ⟨w.1, (lv2 _).mpr (Or.inr (Or.inr w.2))⟩)) (z2_pR rfl (z2_some ⟨rfl, Or.inr ⟨rfl, p1, d1⟩⟩))
  · rcases (lv2 _).mp hl with h19 | h19 | h19
    · exact z2_eR (e_isSign1 h3 h19) (z2_nR (by decide) (hj h3 hl))
    · refine z2_eR (e_isSign0 (fun w => absurd (h19.symm.trans w.2) (by decide))) (z2_pR rfl ?_)
      exact z2_eR (e_isSign1 h3 h19) (z2_nR (by decide) (hj h3 hl))
    · refine z2_eR (e_isSign0 (fun w => absurd (h19.symm.trans w.2) (by decide))) (z2_pR rfl ?_)
      refine z2_eR (e_isSign0 (fun w => absurd (h19.symm.trans w.2) (by decide))) (z2_pR rfl ?_)
      exact z2_eR (e_isSign1 h3 h19) (z2_nR (by decide) (hj h3 hl))
theorem lv_5 {dc dr : Nat} (ih : PCE dc dr) : LVL (dc + 1) dr 5 5 := by
  intro key σ τ hk h hr hc
  show z2 (f_X1_readLevel (G_rd dc) 5 σ) (G_mp dr 5 key τ) (RQ key τ)
  unfold f_X1_readLevel
  exact z2_nL (by decide) (z2_wrap (ih key 0 σ τ hk h (by omega) (by omega)))
theorem LVL.z {dc dr : Nat} {z : Int32} {tag : Nat} (ht : tag ≤ 5) (h : dc = 0 ∨ dr = 0) : LVL dc dr z tag := fun key σ τ _ hp hr hc => by
  have := hp.1.n
  omega
theorem both_read : ∀ (dr dc : Nat), LVL dc dr 0 0 ∧ LVL dc dr 1 1 ∧ LVL dc dr 2 2 ∧ LVL dc dr 3 3 ∧ LVL dc dr 4 4 ∧ LVL dc dr 5 5 ∧ PCE dc dr := by
  intro dr
  induction dr with
  | zero =>
    intro dc
    exact ⟨LVL.z (by decide) (Or.inr rfl), LVL.z (by decide) (Or.inr rfl), LVL.z (by decide) (Or.inr rfl), LVL.z (by decide) (Or.inr rfl), LVL.z (by decide) (Or.inr rfl), LVL.z (by decide) (Or.inr rfl), fun key z0 σ τ _ hp hr hc => by have := hp.1.n; omega⟩
  | succ dr ih =>
    have hp : ∀ dc, PCE dc (dr + 1) := pce_s (fun dc => ⟨(ih dc).1, (ih dc).2.2.2.2.2.2⟩)
    intro dc
    cases dc with
    | zero => exact ⟨LVL.z (by decide) (Or.inl rfl), LVL.z (by decide) (Or.inl rfl), LVL.z (by decide) (Or.inl rfl), LVL.z (by decide) (Or.inl rfl), LVL.z (by decide) (Or.inl rfl), LVL.z (by decide) (Or.inl rfl), hp 0⟩
    | succ dc =>
      obtain ⟨_, i1, i2, i3, i4, i5, _⟩ := ih dc
      exact ⟨lv_either i1, lv_both i2, lv_test i3, lv_sum i4, lv_term i5, lv_5 (hp dc), hp (dc + 1)⟩
