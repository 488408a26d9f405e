theorem zk_w {o : Option (Int32 × zg_S)} {W : Nat → Nat → Prop} {σ : zg_S} {P : Int32 → zg_S → Prop} (h : zk o P) (hw : zw W σ o) : zk o (fun r s => P r s ∧ wr W σ s) := by
  obtain ⟨r, s, e, hp⟩ := h
  exact ⟨r, s, e, hp, hw r s e⟩
/-- the stacks of the texts -/
def WS (p k : Nat) : Prop := (13 ≤ p ∧ p ≤ 52 ∧ p % 3 = 1)
/-- where the class holds what g holds at i -/
def fm (i : Nat) : Nat := [3, 4, 7, 10, 11, 12, 13, 6, 5, 8, 9].getD i 0
theorem fm_inj : ∀ i, i < 11 → ∀ j, j < 11 → fm i = fm j → i = j := by decide
def EQB (σ : zg_S) (p : Nat) (g : Nat → Int32) : Prop := (∀ i, i < 11 → σ p (fm i) = g i) ∧ ∀ k j : Nat, (k : Int) < (g 0).toInt → j < 4 → σ (p + 1 + 2 + k) j = g (11 + 4 * k + j)
def cC (g : Nat → Int32) (key : Int32) : Int32 := if 0 ≤ sCt g key then sCt g key else -1000000005
def TXR (σ : zg_S) (p : Nat) (g : Nat → Int32) : Prop := (σ (p + 2) 0 = cC g 0 ∧ σ (p + 2) 1 = cC g 1 ∧ σ (p + 2) 2 = cC g 2) ∧ ∀ t : Nat, (t : Int) < (g 1).toInt → TxE σ g t
/-- bounds, stalls, texts of g -/
def gOK (g : Nat → Int32) : Prop := gB g ∧ gSs g ∧ (0 ≤ (g 1).toInt ∧ (g 1).toInt ≤ 14) ∧ WF g ∧ ∀ t : Nat, (t : Int) < (g 1).toInt → (g (47 + 200 * t + 2)).toInt ≤ 96
/-- the same texts -/
def STx (g h : Nat → Int32) : Prop := h 1 = g 1 ∧ ∀ i, 47 ≤ i → h i = g i
theorem STx.rf {g : Nat → Int32} : STx g g := ⟨rfl, fun _ _ => rfl⟩
theorem STx.tr {a b c : Nat → Int32} (h1 : STx a b) (h2 : STx b c) : STx a c := ⟨h2.1.trans h1.1, fun i hi => (h2.2 i hi).trans (h1.2 i hi)⟩
theorem STx.up {g h : Nat → Int32} {i : Nat} {v : Int32} (s : STx g h) (h1 : i ≠ 1) (h2 : i < 47) : STx g (upd h i v) := ⟨(pk_un (by omega)).trans s.1, fun j hj => (pk_un (by omega)).trans (s.2 j hj)⟩
theorem sCn_st {g h : Nat → Int32} (s : STx g h) (key : Int32) : ∀ n, sCn h key n = sCn g key n := by
  intro n
  induction n with
  | zero => rfl
  | succ n ih =>
    show (if h (47 + 200 * n) = key then Int32.ofNat n else sCn h key n) = if g (47 + 200 * n) = key then Int32.ofNat n else sCn g key n
    rw [s.2 _ (by omega), ih]
theorem sCt_st {g h : Nat → Int32} (s : STx g h) (key : Int32) : sCt h key = sCt g key := by
  unfold sCt
  rw [s.1]
  exact sCn_st s key _
theorem cC_st {g h : Nat → Int32} (s : STx g h) (key : Int32) : cC h key = cC g key := by
  unfold cC
  rw [sCt_st s]
theorem TxE.st {σ : zg_S} {g h : Nat → Int32} {t : Nat} (s : STx g h) (x : TxE σ g t) : TxE σ h t := by
  obtain ⟨a, b, c, d, e⟩ := x
  have k : ∀ j, h (47 + 200 * t + j) = g (47 + 200 * t + j) := fun j => s.2 _ (by omega)
  have k0 := k 0
  refine ⟨a.trans k0.symm, b.trans (k 1).symm, c.trans (k 2).symm, by rw [show h (47 + 200 * t) = g (47 + 200 * t) from k0]; exact d, fun i hi => ?_⟩
  rw [k 2] at hi
  rw [show h (47 + 200 * t) = g (47 + 200 * t) from k0, s.2 (47 + 200 * t + 4 + 2 * i) (by omega), s.2 (47 + 200 * t + 4 + 2 * i + 1) (by omega)]
  exact e i hi
theorem TxE.wr {σ s : zg_S} {g : Nat → Int32} {t : Nat} (x : TxE σ g t) (h : ∀ k, s (11 + 3 * t) k = σ (11 + 3 * t) k) (h2 : ∀ k, s (11 + 3 * t + 1) k = σ (11 + 3 * t + 1) k) : TxE s g t := by
  obtain ⟨a, b, c, d, e⟩ := x
  exact ⟨(h 0).trans a, (h 1).trans b, (h 2).trans c, d, fun i hi => by rw [h2]; exact e i hi⟩
theorem TXR.st {σ : zg_S} {p : Nat} {g h : Nat → Int32} (s : STx g h) (x : TXR σ p g) : TXR σ p h := by
  obtain ⟨⟨a, b, c⟩, d⟩ := x
  refine ⟨⟨by rw [cC_st s]; exact a, by rw [cC_st s]; exact b, by rw [cC_st s]; exact c⟩, fun t ht => ?_⟩
  rw [s.1] at ht
  exact (d t ht).st s
/-- a state in which the texts, and the counting row, are as before -/
theorem TXR.wr {σ s : zg_S} {p : Nat} {g : Nat → Int32} (x : TXR σ p g) (n : (g 1).toInt ≤ 14) (hc : ∀ k, s (p + 2) k = σ (p + 2) k) (ht : ∀ q k, 11 ≤ q → q ≤ 52 → q % 3 ≠ 1 → s q k = σ q k) : TXR s p g := by
  obtain ⟨⟨a, b, c⟩, d⟩ := x
  refine ⟨⟨(hc 0).trans a, (hc 1).trans b, (hc 2).trans c⟩, fun t h => (d t h).wr (fun k => ht _ k (by omega) (by omega) (by omega)) (fun k => ht _ k (by omega) (by omega) (by omega))⟩
theorem EQB.f {σ : zg_S} {p : Nat} {g : Nat → Int32} (h : EQB σ p g) (i : Nat) (hi : i < 11) : σ p (fm i) = g i := h.1 i hi
theorem EQB.wr {σ s : zg_S} {p : Nat} {g : Nat → Int32} (h : EQB σ p g) (hN : (g 0).toInt ≤ 9) (h1 : ∀ q k, p ≤ q → q ≤ p + 11 → s q k = σ q k) : EQB s p g := ⟨fun i hi => (h1 p _ (by omega) (by omega)).trans (h.1 i hi), fun k j hk hj => (h1 _ _ (by omega) (by omega)).trans (h.2 k j hk hj)⟩
theorem EQB.up {σ : zg_S} {p f : Nat} {g : Nat → Int32} {v : Int32} (h : EQB σ p g) (i : Nat) (hi : i < 11) (hi0 : i ≠ 0) (hf : fm i = f) : EQB (zg_up σ p f v) p (upd g i v) := by
  subst hf
  refine ⟨fun j hj => ?_, fun k j hk hj => ?_⟩
  · by_cases e : j = i
    · subst e
      rw [pk_us]
      exact zgot
    · rw [pk_un e]
      exact (zkeepn (fun z => e (fm_inj j hj i hi z))).trans (h.1 j hj)
  · rw [pk_un (by omega)] at hk
    rw [pk_un (by omega)]
    exact (congrFun (zg_row_ne (by omega)) j).trans (h.2 k j hk hj)
theorem EQB.upS {σ : zg_S} {p : Nat} {g : Nat → Int32} {v : Int32} (h : EQB σ p g) (k0 j0 : Nat) (hj0 : j0 < 4) : EQB (zg_up σ (p + 1 + 2 + k0) j0 v) p (upd g (11 + 4 * k0 + j0) v) := by
  refine ⟨fun j hj => ?_, fun k j hk hj => ?_⟩
  · rw [pk_un (by omega)]
    exact (congrFun (zg_row_ne (by omega)) _).trans (h.1 j hj)
  · rw [pk_un (by omega)] at hk
    by_cases e : k = k0
    · subst e
      by_cases e2 : j = j0
      · subst e2
        rw [pk_us]
        exact zgot
      · rw [pk_un (by omega)]
        exact (zkeepn e2).trans (h.2 k j hk hj)
    · rw [pk_un (by omega)]
      exact (congrFun (zg_row_ne (by omega)) j).trans (h.2 k j hk hj)
/-! how gOK is kept -/
theorem gSb_eq {g h : Nat → Int32} {k : Nat} (e : ∀ j, j < 4 → h (11 + 4 * k + j) = g (11 + 4 * k + j)) (b : gSb g k) : gSb h k := by
  have e0 := e 0 (by decide)
  have e1 := e 1 (by decide)
  have e2 := e 2 (by decide)
  have e3 := e 3 (by decide)
  unfold gSb
  rw [show h (11 + 4 * k) = g (11 + 4 * k) from e0, e1, e2, e3]
  exact b
theorem gOK.tx {g h : Nat → Int32} (o : gOK g) (s : STx g h) (hB : gB h) (hS : gSs h) : gOK h := by
  obtain ⟨_, _, c, d, e⟩ := o
  refine ⟨hB, hS, by rw [s.1]; exact c, WF_eq s.1 s.2 d, fun t ht => ?_⟩
  rw [s.1] at ht
  rw [s.2 _ (by omega)]
  exact e t ht
theorem gB_eq {g h : Nat → Int32} (b : gB g) (e : ∀ i, i < 11 → i ≠ 3 → i ≠ 4 → i ≠ 5 → i ≠ 6 → h i = g i) : gB h := by
  unfold gB
  rw [e 0 (by decide) (by decide) (by decide) (by decide) (by decide), e 2 (by decide) (by decide) (by decide) (by decide) (by decide), e 8 (by decide) (by decide) (by decide) (by decide) (by decide), e 7 (by decide) (by decide) (by decide) (by decide) (by decide), e 9 (by decide) (by decide) (by decide) (by decide) (by decide), e 10 (by decide) (by decide) (by decide) (by decide) (by decide)]
  exact b
theorem gOK.lo {g : Nat → Int32} {i : Nat} {v : Int32} (o : gOK g) (hi : i = 3 ∨ i = 4 ∨ i = 5 ∨ i = 6) : gOK (upd g i v) := by
  refine o.tx (STx.rf.up (by omega) (by omega)) (gB_eq o.1 (fun j _ h3 h4 h5 h6 => pk_un (by omega))) (fun k hk => ?_)
  rw [pk_un (by omega)] at hk
  exact gSb_eq (fun j _ => pk_un (by omega)) (o.2.1 k hk)
theorem gOK.go {g : Nat → Int32} {k : Nat} {v : Int32} (o : gOK g) (hv : 0 ≤ v.toInt ∧ v.toInt ≤ 999) (hk : k < 9) : gOK (upd g (11 + 4 * k + 2) v) := by
  refine o.tx (STx.rf.up (by omega) (by omega)) (gB_eq o.1 (fun j hj _ _ _ _ => pk_un (by omega))) (fun i hi => ?_)
  rw [pk_un (by omega)] at hi
  have b := o.2.1 i hi
  by_cases e : i = k
  · subst e
    unfold gSb
    rw [pk_un (by omega), pk_un (by omega), pk_us, pk_un (by omega)]
    exact ⟨b.1, b.2.1, hv, b.2.2.2⟩
  · exact gSb_eq (fun j hj => pk_un (by omega)) b
theorem gOK.first {g : Nat → Int32} {v : Int32} (o : gOK g) (hv : 0 ≤ v.toInt ∧ v.toInt ≤ 12 - (g 8).toInt) : gOK (upd g 7 v) := by
  refine o.tx (STx.rf.up (by omega) (by omega)) ?_ (fun i hi => ?_)
  · obtain ⟨a, b, c, d, e, f⟩ := o.1
    unfold gB
    rw [pk_un (by decide), pk_un (by decide), pk_un (by decide), pk_us, pk_un (by decide), pk_un (by decide)]
    exact ⟨a, b, c, hv, e, f⟩
  · rw [pk_un (by omega)] at hi
    exact gSb_eq (fun j hj => pk_un (by omega)) (o.2.1 i hi)
theorem gOK.hour {g : Nat → Int32} {v : Int32} (o : gOK g) (hv : 0 ≤ v.toInt ∧ v.toInt ≤ 20000) : gOK (upd g 2 v) := by
  refine o.tx (STx.rf.up (by omega) (by omega)) ?_ (fun i hi => ?_)
  · obtain ⟨a, b, c, d, e, f⟩ := o.1
    unfold gB
    rw [pk_un (by decide), pk_us, pk_un (by decide), pk_un (by decide), pk_un (by decide), pk_un (by decide)]
    exact ⟨a, hv, c, d, e, f⟩
  · rw [pk_un (by omega)] at hi
    exact gSb_eq (fun j hj => pk_un (by omega)) (o.2.1 i hi)
theorem sO_c {g h : Nat → Int32} (e : h 2 = g 2) : sO h = sO g := by
  unfold sO sT
  rw [e]
theorem sShd_c {g h : Nat → Int32} {F pl : Int32} (e2 : h 2 = g 2) (e8 : h 8 = g 8) : sShd h F pl = sShd g F pl := by
  unfold sShd
  rw [sO_c e2, e8]
/-! what the hour does to g, cell by cell -/
theorem sSt_ok {g : Nat → Int32} {k : Nat} (o : gOK g) (hk : (k : Int) < (g 0).toInt) : gOK (sSt g k) := by
  obtain ⟨hN, _⟩ := o.1
  have hb := o.2.1 k hk
  have hl := sLs_b o.1 hb
  obtain ⟨_, _, h3, _⟩ := hb
  have es := zTe (zTsub (zTs (g (11 + 4 * k + 2))) (zTs (sLs g k)) (by omega) (by omega))
  unfold sSt
  exact ((o.lo (Or.inr (Or.inl rfl))).go ⟨by rw [es]; omega, by rw [es]; omega⟩ (by omega)).lo (Or.inl rfl)
theorem sSt_c {g : Nat → Int32} {k i : Nat} (h3 : i ≠ 3) (h4 : i ≠ 4) (h : i ≠ 11 + 4 * k + 2) : sSt g k i = g i := by
  unfold sSt
  rw [pk_un h3, pk_un h, pk_un h4]
theorem sLp_c {g : Nat → Int32} {i : Nat} (h3 : i ≠ 3) (h4 : i ≠ 4) (h : i < 11 ∨ 47 ≤ i ∨ i % 4 ≠ 1) : ∀ k, k ≤ 9 → sLp g k i = g i := by
  intro k
  induction k with
  | zero => intro _; rfl
  | succ k ih =>
    intro hk
    show sSt (sLp g k) k i = g i
    rw [sSt_c h3 h4 (by omega)]
    exact ih (by omega)
theorem sLp_ok {g : Nat → Int32} (o : gOK g) : ∀ k : Nat, (k : Int) ≤ (g 0).toInt → gOK (sLp g k) := by
  obtain ⟨hN, _⟩ := o.1
  intro k
  induction k with
  | zero => intro _; exact o
  | succ k ih =>
    intro hk
    refine sSt_ok (ih (by omega)) ?_
    rw [sLp_c (by decide) (by decide) (by decide) k (by omega)]
    omega
