/-! text -/
def AGr (N : Nat) (g g' : Nat → Int32) : Prop := ∀ k, k ≠ 1 → k < 47 + 200 * N → g' k = g k
section
variable {N : Nat} {g g' : Nat → Int32}
theorem gB.ag (a : AGr N g g') (h : gB g) : gB g' := by
  unfold gB
  rw [a 0 (by decide) (by omega), a 2 (by decide) (by omega), a 8 (by decide) (by omega), a 7 (by decide) (by omega), a 9 (by decide) (by omega), a 10 (by decide) (by omega)]
  exact h
theorem gC.ag (a : AGr N g g') (h : gC g) : gC g' := by
  unfold gC
  rw [a 2 (by decide) (by omega), a 3 (by decide) (by omega), a 4 (by decide) (by omega), a 5 (by decide) (by omega)]
  exact h
theorem gSs.ag (a : AGr N g g') (h9 : (g 0).toInt ≤ 9) (h : gSs g) : gSs g' := fun k hk => by
  rw [a 0 (by decide) (by omega)] at hk
  have := h k hk
  unfold gSb
  rw [a (11 + 4 * k) (by omega) (by omega), a (11 + 4 * k + 1) (by omega) (by omega), a (11 + 4 * k + 2) (by omega) (by omega), a (11 + 4 * k + 3) (by omega) (by omega)]
  exact this
theorem sCn_agr (a : AGr N g g') (key : Int32) : ∀ n, n ≤ N → sCn g' key n = sCn g key n := by
  intro n
  induction n with
  | zero => intro _; rfl
  | succ n ih =>
    intro hn
    show (if g' (47 + 200 * n) = key then Int32.ofNat n else sCn g' key n) = if g (47 + 200 * n) = key then Int32.ofNat n else sCn g key n
    rw [a (47 + 200 * n) (by omega) (by omega), ih (by omega)]
theorem TxE.ag {σ : zg_S} {t : Nat} (a : AGr N g g') (ht : t < N) (h96 : (g (47 + 200 * t + 2)).toInt ≤ 96) (x : TxE σ g t) : TxE σ g' t := by
  unfold TxE
  rw [a (47 + 200 * t) (by omega) (by omega), a (47 + 200 * t + 1) (by omega) (by omega), a (47 + 200 * t + 2) (by omega) (by omega)]
  refine ⟨x.1, x.2.1, x.2.2.1, x.2.2.2.1, fun i hi => ?_⟩
  rw [a (47 + 200 * t + 4 + 2 * i) (by omega) (by omega), a (47 + 200 * t + 4 + 2 * i + 1) (by omega) (by omega)]
  exact x.2.2.2.2 i hi
theorem EQB.ag {σ s : zg_S} (a : AGr N g g') (h9 : (g 0).toInt ≤ 9) (h : EQB σ 153 g) (h1 : s 153 4 = g' 1) (h2 : ∀ k, k ≠ 4 → s 153 k = σ 153 k) (h3 : ∀ q k, 156 ≤ q → q ≤ 164 → s q k = σ q k) : EQB s 153 g' := by
  refine ⟨fun i hi => ?_, fun k j hk hj => ?_⟩
  · by_cases c : i = 1
    · subst c
      exact h1
    · rw [a i c (by omega)]
      exact (h2 _ (fun z => c (fm_inj i hi 1 (by decide) z))).trans (h.1 i hi)
  · rw [a 0 (by decide) (by omega)] at hk
    rw [a _ (by omega) (by omega)]
    exact (h3 _ _ (by omega) (by omega)).trans (h.2 k j hk hj)
end
/-- nothing told: the texts are as they were -/
theorem bzA {σ s : zg_S} {g g' : Nat → Int32} (h : BZ σ 153 g) (a : AGr (g 1).toNatClampNeg g g') (a1 : g' 1 = g 1) (w : WF g') (h1 : ∀ q k, 153 ≤ q → q ≤ 164 → s q k = σ q k) (h2 : ∀ q k, 11 ≤ q → q ≤ 52 → q % 3 ≠ 1 → s q k = σ q k) : BZ s 153 g' := by
  obtain ⟨hE, hT, ⟨o1, o2, o3, o4, o5⟩, hC, h9⟩ := h
  have n1 := ztn o3.1
  have hT' := hT.wr o3.2 (fun k => h1 _ k (by omega) (by omega)) h2
  have cc : ∀ key, cC g' key = cC g key := fun key => by
    unfold cC sCt
    rw [a1, sCn_agr a key _ (Nat.le_refl _)]
  refine ⟨hE.ag a o1.1.2 ((h1 153 4 (by decide) (by decide)).trans ((hE.f 1 (by decide)).trans a1.symm)) (fun k _ => h1 153 k (by decide) (by decide)) (fun q k x y => h1 q k (by omega) (by omega)), ⟨?_, fun t ht => ?_⟩, ⟨o1.ag a, o2.ag a o1.1.2, by rw [a1]; exact o3, w, fun t ht => ?_⟩, hC.ag a, by rw [a 2 (by decide) (by omega)]; exact h9⟩
  · rw [cc, cc, cc]
    exact hT'.1
  · rw [a1] at ht
    exact (hT'.2 t ht).ag a (by omega) (o5 t ht)
  · rw [a1] at ht
    rw [a _ (by omega) (by omega)]
    exact o5 t ht
/-- one more text -/
theorem bzB {σ s : zg_S} {g g' : Nat → Int32} {key : Int32} (h : BZ σ 153 g) (hn : (g 1).toInt < 14) (a : AGr (g 1).toNatClampNeg g g') (a1 : g' 1 = g 1 + 1) (w : WF g') (hk : KY key) (gk : g' (47 + 200 * (g 1).toNatClampNeg) = key) (hx : TxE s g' (g 1).toNatClampNeg) (h96 : (g' (47 + 200 * (g 1).toNatClampNeg + 2)).toInt ≤ 96) (h4 : s 153 4 = g 1 + 1) (h1 : ∀ k, k ≠ 4 → s 153 k = σ 153 k) (h5 : s 155 key.toNatClampNeg = g 1) (h5' : ∀ k, k ≠ key.toNatClampNeg → s 155 k = σ 155 k) (h3 : ∀ q k, 156 ≤ q → q ≤ 164 → s q k = σ q k) (h2 : ∀ q k, 11 ≤ q → q ≤ 52 → q % 3 ≠ 1 → q ≠ 11 + 3 * (g 1).toNatClampNeg → q ≠ 11 + 3 * (g 1).toNatClampNeg + 1 → s q k = σ q k) : BZ s 153 g' := by
  obtain ⟨hE, hT, ⟨o1, o2, o3, o4, o5⟩, hC, h9⟩ := h
  have e0 := zt_0
  have e1 := zt_1
  have n1 := ztn o3.1
  have ea := zTe (zTadd (zTs (g 1)) (zTl zt_1) (by omega) (by omega))
  have n2 : (g' 1).toNatClampNeg = (g 1).toNatClampNeg + 1 := by
    have := ztn (i := g 1 + 1) (by omega)
    rw [a1]
    omega
  have sc : ∀ k, sCt g' k = if key = k then g 1 else sCt g k := fun k => by
    unfold sCt
    rw [n2]
    show (if g' (47 + 200 * (g 1).toNatClampNeg) = k then Int32.ofNat (g 1).toNatClampNeg else sCn g' k (g 1).toNatClampNeg) = _
    rw [gk, sCn_agr a k _ (Nat.le_refl _), ← ofNe (x := g 1) (i := (g 1).toNatClampNeg) n1.symm]
  have pg : (0 : Int32) ≤ g 1 := Int32.le_iff_toInt_le.mpr (by omega)
  have cp : cC g' key = g 1 := by
    unfold cC
    rw [sc, if_pos rfl, if_pos pg]
  have cn : ∀ k, ¬ key = k → cC g' k = cC g k := fun k hn => by
    unfold cC
    rw [sc, if_neg hn]
  refine ⟨hE.ag a o1.1.2 (h4.trans a1.symm) h1 h3, ⟨?_, fun t ht => ?_⟩, ⟨o1.ag a, o2.ag a o1.1.2, by rw [a1, ea]; omega, w, fun t ht => ?_⟩, hC.ag a, by rw [a 2 (by decide) (by omega)]; exact h9⟩
  · obtain ⟨⟨x0, x1, x2⟩, _⟩ := hT
    rcases hk with rfl | rfl | rfl
    · exact ⟨h5.trans cp.symm, by rw [cn 1 (by decide)]; exact (h5' 1 (by decide)).trans x1, by rw [cn 2 (by decide)]; exact (h5' 2 (by decide)).trans x2⟩
    · exact ⟨by rw [cn 0 (by decide)]; exact (h5' 0 (by decide)).trans x0, h5.trans cp.symm, by rw [cn 2 (by decide)]; exact (h5' 2 (by decide)).trans x2⟩
    · exact ⟨by rw [cn 0 (by decide)]; exact (h5' 0 (by decide)).trans x0, by rw [cn 1 (by decide)]; exact (h5' 1 (by decide)).trans x1, h5.trans cp.symm⟩
  · rw [a1, ea] at ht
    by_cases c : t = (g 1).toNatClampNeg
    · subst c
      exact hx
    · have ht' : (t : Int) < (g 1).toInt := by omega
      exact ((hT.2 t ht').wr (fun k => h2 _ k (by omega) (by omega) (by omega) (by omega) (by omega)) (fun k => h2 _ k (by omega) (by omega) (by omega) (by omega) (by omega))).ag a (by omega) (o5 t ht')
  · rw [a1, ea] at ht
    by_cases c : t = (g 1).toNatClampNeg
    · subst c
      exact h96
    · rw [a _ (by omega) (by omega)]
      exact o5 t (by omega)
/-- the image, where a text behind all of its own was written -/
theorem R2.t {σ s τ t : zg_S} {N : Nat} (h : R2 σ τ) (hN : (τ 1 1).toInt ≤ N) (a : s 0 12 = σ 0 12) (b : t 0 3 = τ 0 3) (c : t 2 = τ 2) (d : (τ 1 1).toInt ≤ (t 1 1).toInt) (e : ∀ q k, 177 ≤ q → q ≤ 188 → s q k = σ q k) (f : ∀ q k, 11 ≤ q → q ≤ 52 → q % 3 ≠ 1 → q ≠ 11 + 3 * N → q ≠ 11 + 3 * N + 1 → s q k = σ q k) : R2 s t := by
  refine ⟨by rw [a, b]; exact h.1, fun hn => ?_⟩
  rw [b] at hn
  obtain ⟨x, y⟩ := h.2 hn
  rw [c]
  refine ⟨⟨x.1.wr x.2.2.1.1.1.2 (fun q k h1 h2 => e q k (by omega) (by omega)), ?_, x.2.2⟩, by omega⟩
  obtain ⟨⟨x0, x1, x2⟩, x3⟩ := x.2.1
  have n14 := x.2.2.1.2.2.1.2
  exact ⟨⟨(e _ _ (by decide) (by decide)).trans x0, (e _ _ (by decide) (by decide)).trans x1, (e _ _ (by decide) (by decide)).trans x2⟩, fun i hi => (x3 i hi).wr (fun k => f _ k (by omega) (by omega) (by omega) (by omega) (by omega)) (fun k => f _ k (by omega) (by omega) (by omega) (by omega) (by omega))⟩
theorem c_textOver (q0 : Nat) (h : 11 ≤ q0) (σ : zg_S) : zk (f_X5_takeOver q0 8 σ) (fun _ s => s q0 0 = σ 8 0 ∧ s q0 1 = σ 8 1 ∧ s q0 2 = σ 8 2 ∧ (∀ i, i < 96 → s (q0 + 1) i = σ 9 i) ∧ ∀ p, p ≠ q0 → p ≠ q0 + 1 → s p = σ p) := by
  unfold f_X5_takeOver
  refine zk_let (fun s1 e1 => zk_let (fun s2 e2 => zk_let (fun s3 e3 => zk_ite (fun _ => zk_let (fun s4 e4 => zk_some ?_)) (fun z => absurd (by decide) z))))
  have r1 : ∀ p, p ≠ q0 → s1 p = σ p := fun p hp => by rw [e1]; exact zg_row_ne hp
  have r2 : ∀ p, p ≠ q0 → s2 p = σ p := fun p hp => by rw [e2]; exact (zg_row_ne hp).trans (r1 p hp)
  have r3 : ∀ p, p ≠ q0 → s3 p = σ p := fun p hp => by rw [e3]; exact (zg_row_ne hp).trans (r2 p hp)
  have r4 : ∀ p, p ≠ q0 + 1 → s4 p = s3 p := fun p hp => by rw [e4]; exact zg_row_ne hp
  refine ⟨?_, ?_, ?_, fun i hi => ?_, fun p h1 h2 => (r4 p h2).trans (r3 p h1)⟩
  · rw [r4 q0 (by omega), e3]; refine (zkeepf rfl).trans ?_
    rw [e2]; refine (zkeepf rfl).trans ?_
    rw [e1]; exact zgot
  · rw [r4 q0 (by omega), e3]; refine (zkeepf rfl).trans ?_
    rw [e2]; exact zgot.trans (congrFun (r1 8 (by omega)) 1)
  · rw [r4 q0 (by omega), e3]; exact zgot.trans (congrFun (r2 8 (by omega)) 2)
  · rw [e4, zg_row_eq, pk_cpy_in (show (0 : Int32).toNatClampNeg ≤ i from Nat.zero_le _) (show i < (0 : Int32).toNatClampNeg + (96 : Int32).toNatClampNeg from hi), show s3 (8 + 1) = σ 9 from r3 9 (by omega)]
    congr 1
    show 0 + (i - 0) = i
    omega
theorem c_enact (σ : zg_S) (h0 : 0 ≤ (σ 153 4).toInt) (h1 : (σ 153 4).toInt < 14) (hk : KY (σ 8 0)) : zk (f_X0_enact 153 8 σ) (fun r s => r = σ 153 4 ∧ s 153 4 = σ 153 4 + 1 ∧ (∀ k, k ≠ 4 → s 153 k = σ 153 k) ∧ s 155 (σ 8 0).toNatClampNeg = σ 153 4 ∧ (∀ k, k ≠ (σ 8 0).toNatClampNeg → s 155 k = σ 155 k) ∧ s (11 + 3 * (σ 153 4).toNatClampNeg) 0 = σ 8 0 ∧ s (11 + 3 * (σ 153 4).toNatClampNeg) 1 = σ 8 1 ∧ s (11 + 3 * (σ 153 4).toNatClampNeg) 2 = σ 8 2 ∧ (∀ i, i < 96 → s (11 + 3 * (σ 153 4).toNatClampNeg + 1) i = σ 9 i) ∧ ∀ p, p ≠ 153 → p ≠ 155 → p ≠ 11 + 3 * (σ 153 4).toNatClampNeg → p ≠ 11 + 3 * (σ 153 4).toNatClampNeg + 1 → s p = σ p) := by
  have e14 := zt_14
  have nn := ztn h0
  have hkb : (0 : Int32).toInt ≤ (σ 8 0).toInt ∧ (σ 8 0).toInt ≤ (2 : Int32).toInt := by rcases hk with e | e | e <;> (rw [e]; decide)
  have hz : zin (σ 8 0) 3 = true := by rcases hk with e | e | e <;> (rw [e]; decide)
  unfold f_X0_enact
  refine zk_ite (fun z => ?_) (fun _ => ?_)
  · have := zle z
    omega
  refine zk_call (P := fun r s => r = 1 ∧ σ = s) ⟨_, _, c_within1 σ hkb, rfl, rfl⟩ (fun r s hp => ?_)
  obtain ⟨rfl, rfl⟩ := hp
  refine zk_ite (fun z => absurd z (by decide)) (fun _ => zk_in (zin_mk h0 (by omega)) ?_)
  refine zk_call (c_textOver (11 + 3 * (σ 153 4).toNatClampNeg) (by omega) σ) (fun _ t hp => ?_)
  obtain ⟨a0, a1, a2, a3, a4⟩ := hp
  have t8 : t 8 = σ 8 := a4 8 (by omega) (by omega)
  have t153 : t 153 = σ 153 := a4 153 (by omega) (by omega)
  rw [t8, t153]
  refine zk_in hz (zk_let (fun u qu => ?_))
  have u153 : u 153 = σ 153 := by rw [qu]; exact (zg_row_ne (by decide)).trans t153
  rw [u153]
  refine zk_let (fun v qv => ?_)
  have rv : ∀ p, p ≠ 153 → v p = u p := fun p hp => by rw [qv]; exact zg_row_ne hp
  have ru : ∀ p, p ≠ 155 → u p = t p := fun p hp => by rw [qu]; exact zg_row_ne hp
  have v4 : v 153 4 = σ 153 4 + 1 := by rw [qv]; exact zgot
  refine zk_some ⟨by rw [v4]; exact Int32.add_sub_cancel _ _, v4, fun k hk => ?_, ?_, fun k hk => ?_, ?_, ?_, ?_, fun i hi => ?_, fun p h1 h2 h3 h4 => (rv p h1).trans ((ru p h2).trans (a4 p h3 h4))⟩
  · rw [qv]
    exact (zkeepn hk).trans (congrFun u153 k)
  · rw [rv 155 (by decide), qu]
    exact zgot
  · rw [rv 155 (by decide), qu]
    exact (zkeepn hk).trans (congrFun (a4 155 (by omega) (by omega)) k)
  · rw [rv _ (by omega), ru _ (by omega)]
    exact a0
  · rw [rv _ (by omega), ru _ (by omega)]
    exact a1
  · rw [rv _ (by omega), ru _ (by omega)]
    exact a2
  · rw [rv _ (by omega), ru _ (by omega)]
    exact a3 i hi
