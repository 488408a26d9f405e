/-! the cloth, the book, fees and fines -/
theorem sShd_i {g : Nat → Int32} {F pl : Int32} (h2 : 0 ≤ (g 2).toInt) (hw : 1 ≤ (g 8).toInt ∧ (g 8).toInt ≤ 6) (hF : -100 ≤ F.toInt ∧ F.toInt ≤ 100) : sShd g F pl = 0 ↔ ¬ ((F + sO g).toInt ≤ pl.toInt ∧ pl.toInt < (F + sO g).toInt + (g 8).toInt) := by
  have ho := sO_b h2
  have e1 := zt_1
  have ea := zTadd (zTs F) (zTs (sO g)) (by omega) (by omega)
  have eb := zTe (zTadd ea (zTs (g 8)) (by omega) (by omega))
  rw [zTe ea]
  have ea' := zTe ea
  unfold sShd
  generalize (F + sO g) + g 8 = u at eb ⊢
  generalize F + sO g = w at ea' ⊢
  by_cases c : pl < w
  · rw [if_pos c]
    have := zlt c
    exact ⟨fun _ => by omega, fun _ => rfl⟩
  · rw [if_neg c]
    have := znlt c
    by_cases d : u ≤ pl
    · rw [if_pos d]
      have := zle d
      exact ⟨fun _ => by omega, fun _ => rfl⟩
    · rw [if_neg d]
      have := znle d
      exact ⟨fun z => absurd z one_ne, fun z => absurd ⟨by omega, by omega⟩ z⟩
/-- the first place in shade, from A on, W wide -/
def fsA (A W : Int) (r : Int32) : Prop := (r = -1000000005 ∧ ∀ x : Int, 0 ≤ x → x < 12 → ¬ (A ≤ x ∧ x < A + W)) ∨ (0 ≤ r.toInt ∧ r.toInt < 12 ∧ (A ≤ r.toInt ∧ r.toInt < A + W) ∧ ∀ x : Int, 0 ≤ x → x < r.toInt → ¬ (A ≤ x ∧ x < A + W))
theorem c_firstShaded {σ : zg_S} {p : Nat} {g : Nat → Int32} (h : EQB σ p g) (o : gOK g) : zk (f_X0_firstShaded p σ) (fun r s => σ = s ∧ fsA (g 7 + sO g).toInt (g 8).toInt r) := by
  obtain ⟨_, h2, h8, _⟩ := id o.1
  have e0 := zt_0
  have e1 := zt_1
  have e12 := zt_12
  unfold f_X0_firstShaded L_X0_firstShaded_2
  refine zl_I (fun (x1 : Int32) (s : zg_S) => σ = s ∧ 0 ≤ x1.toInt ∧ x1.toInt ≤ 12 ∧ ∀ x : Int, 0 ≤ x → x < x1.toInt → ¬ ((g 7 + sO g).toInt ≤ x ∧ x < (g 7 + sO g).toInt + (g 8).toInt)) (fun (x1 : Int32) (_ : zg_S) => (12 - x1.toInt).toNat) ?_ zfu _ _ ⟨rfl, by omega, by omega, fun x h1 h2 => by omega⟩ (by unfold zfu; omega)
  intro rec x1 s hI ih
  obtain ⟨rfl, i1, i2, i3⟩ := hI
  unfold B_X0_firstShaded_2
  refine zk_ite (fun hle => ?_) (fun hlt => ?_)
  · have := zle hle
    exact zk_some ⟨rfl, Or.inl ⟨rfl, fun x a b => i3 x a (by omega)⟩⟩
  · have gl := znle hlt
    refine zk_e (c_shades h x1) ?_
    have hi := sShd_i (g := g) (F := g 7) (pl := x1) h2.1 h8 (gF o.1)
    refine zk_ite (fun hz => ?_) (fun hz => ?_)
    · have ex := zTe (zTadd (zTs x1) (zTl zt_1) (by omega) (by omega))
      have hn := hi.mp hz
      refine ih (x1 + 1) σ ⟨rfl, by rw [ex]; omega, by rw [ex]; omega, fun x a b => ?_⟩ (by show (12 - (x1 + 1).toInt).toNat < (12 - x1.toInt).toNat; rw [ex]; omega)
      rw [ex] at b
      by_cases c : x < x1.toInt
      · exact i3 x a c
      · rw [show x = x1.toInt by omega]
        exact hn
    · refine zk_some ⟨rfl, Or.inr ⟨i1, by omega, ?_, i3⟩⟩
      exact Decidable.of_not_not (fun z => hz (hi.mpr z))
theorem r_firstShaded {τ : zg_S} {g : Nat → Int32} (h1 : τ 1 = g) (o : gOK g) : zk (zbd (f_X7_firstShaded τ) (fun r s => zbd (f_X7_orNone r s) (fun r' s' => some (r', s')))) (fun r s => τ = s ∧ fsA (g 7 + sO g).toInt (g 8).toInt r) := by
  obtain ⟨_, h2, h8, _⟩ := id o.1
  have e0 := zt_0
  have e12 := zt_12
  have ho := sO_b h2.1
  have gf := gF o.1
  have ea := zTadd (zTs (g 7)) (zTs (sO g)) (by omega) (by omega)
  have eb := zTe (zTadd ea (zTs (g 8)) (by omega) (by omega))
  have ea' := zTe ea
  have b15 : ∀ y : Int32, 0 ≤ y.toInt → (y.toInt = (g 7 + sO g).toInt ∨ (y.toInt = 0 ∧ (g 7 + sO g).toInt < 0)) → zk (zbd (B_X7_firstShaded_15 y τ) (fun r s => zbd (f_X7_orNone r s) (fun r' s' => some (r', s')))) (fun r s => τ = s ∧ fsA (g 7 + sO g).toInt (g 8).toInt r) := fun y hy hc => by
    have none : (∀ x : Int, 0 ≤ x → x < 12 → ¬ ((g 7 + sO g).toInt ≤ x ∧ x < (g 7 + sO g).toInt + (g 8).toInt)) → zk (zbd (some ((-1 : Int32), τ)) (fun r s => zbd (f_X7_orNone r s) (fun r' s' => some (r', s')))) (fun r s => τ = s ∧ fsA (g 7 + sO g).toInt (g 8).toInt r) := fun hn => ⟨-1000000005, τ, rfl, rfl, Or.inl ⟨rfl, hn⟩⟩
    unfold B_X7_firstShaded_15
    rw [r_shadeFrom h1, zbd_s, h1]
    generalize (g 7 + sO g) + g 8 = u at eb ⊢
    generalize g 7 + sO g = w at ea' hc none ⊢
    by_cases c : 12 ≤ y
    · rw [if_pos c]
      have := zle c
      exact none (fun x a b => by omega)
    · rw [if_neg c]
      have := znle c
      by_cases d : u ≤ y
      · rw [if_pos d]
        have := zle d
        exact none (fun x a b => by omega)
      · rw [if_neg d]
        have := znle d
        have eo : f_X7_orNone y τ = some (y, τ) := by
          unfold f_X7_orNone
          rw [if_pos (Int32.le_iff_toInt_le.mpr (by omega))]
        refine ⟨y, τ, ?_, rfl, Or.inr ⟨hy, by omega, ⟨by omega, by omega⟩, fun x a b => by omega⟩⟩
        rw [zbd_s, eo, zbd_s]
  unfold f_X7_firstShaded
  rw [r_shadeFrom h1, zbd_s, r_shadeFrom h1, zbd_s]
  by_cases c : 0 ≤ g 7 + sO g
  · rw [if_pos c]
    have := zle c
    exact b15 _ (by omega) (Or.inl rfl)
  · rw [if_neg c]
    have := znle c
    exact b15 0 (by omega) (Or.inr ⟨e0, by omega⟩)
theorem fsA_u {A W : Int} {r r' : Int32} (h : fsA A W r) (h' : fsA A W r') : r = r' := by
  rcases h with ⟨a, b⟩ | ⟨a1, a2, a3, a4⟩
  · rcases h' with ⟨c, d⟩ | ⟨c1, c2, c3, c4⟩
    · rw [a, c]
    · exact absurd c3 (b _ c1 c2)
  · rcases h' with ⟨c, d⟩ | ⟨c1, c2, c3, c4⟩
    · exact absurd a3 (d _ a1 a2)
    · refine Int32.toInt_inj.mp ?_
      by_cases x : r.toInt < r'.toInt
      · exact absurd a3 (c4 _ a1 x)
      · by_cases y : r'.toInt < r.toInt
        · exact absurd c3 (a4 _ c1 y)
        · omega
def sSS (g : Nat → Int32) : Nat → Int32
  | 0 => 0
  | k + 1 => if sShd g (g 7) (g (11 + 4 * k + 1)) = 0 then sSS g k else sSS g k ||| (1 <<< (Int32.ofNat k &&& 31))
theorem ofNe {x : Int32} {i : Nat} (h : x.toInt = i) : x = Int32.ofNat i := by
  have hb := Int32.toInt_lt x
  exact Int32.toInt_inj.mp (by rw [ofN (by omega)]; exact h)
theorem c_shadedSet {σ : zg_S} {p : Nat} {g : Nat → Int32} (h : EQB σ p g) (o : gOK g) : zk (f_X0_shadedSet p σ) (fun r s => σ = s ∧ r = sSS g (g 0).toNatClampNeg) := by
  obtain ⟨hN, _⟩ := id o.1
  have e0 := zt_0
  have e1 := zt_1
  have nn := ztn hN.1
  unfold f_X0_shadedSet L_X0_shadedSet_4
  refine zl_II (fun (x1 x2 : Int32) (s : zg_S) => σ = s ∧ ∃ i : Nat, x2.toInt = i ∧ (i : Int) ≤ (g 0).toInt ∧ x1 = sSS g i) (fun (_ x2 : Int32) (_ : zg_S) => (9 - x2.toInt).toNat) ?_ zfu _ _ _ ⟨rfl, 0, e0, by omega, rfl⟩ (by unfold zfu; omega)
  intro rec x1 x2 s hI ih
  obtain ⟨rfl, i, hi, hi2, hx⟩ := hI
  unfold B_X0_shadedSet_4
  rw [show σ p 3 = g 0 from h.f 0 (by decide)]
  refine zk_ite (fun hle => ?_) (fun hlt => ?_)
  · have := zle hle
    exact zk_some ⟨rfl, by rw [show (g 0).toNatClampNeg = i by omega]; exact hx⟩
  · have gl := znle hlt
    have ni := ztn (i := x2) (by omega)
    have hk : (i : Int) < (g 0).toInt := by omega
    refine zk_in (zin_mk (by omega) (by omega)) ?_
    rw [show x2.toNatClampNeg = i by omega, h.2 i 1 hk (by decide)]
    have ex := zTe (zTadd (zTs x2) (zTl zt_1) (by omega) (by omega))
    have nx7 : ∀ y : Int32, y = sSS g (i + 1) → zk (B_X0_shadedSet_34 p rec y x2 σ) (fun r s => σ = s ∧ r = sSS g (g 0).toNatClampNeg) := fun y hy => by
      unfold B_X0_shadedSet_34
      exact ih y (x2 + 1) σ ⟨rfl, i + 1, by rw [ex, hi]; rfl, by omega, hy⟩ (by show (9 - (x2 + 1).toInt).toNat < (9 - x2.toInt).toNat; rw [ex]; omega)
    have eP : sSS g (i + 1) = if sShd g (g 7) (g (11 + 4 * i + 1)) = 0 then sSS g i else sSS g i ||| (1 <<< (Int32.ofNat i &&& 31)) := rfl
    refine zk_e (c_shades h _) ?_
    refine zk_ite (fun hd => nx7 _ (by rw [eP, if_pos hd]; exact hx)) (fun hd => nx7 _ (by rw [eP, if_neg hd, hx, ← ofNe hi]))
theorem r_shadedSet {τ : zg_S} {g : Nat → Int32} (h1 : τ 1 = g) (o : gOK g) : zk (f_X7_shadedSet τ) (fun r s => τ = s ∧ r = sSS g (g 0).toNatClampNeg) := by
  obtain ⟨hN, _⟩ := id o.1
  have e0 := zt_0
  have e1 := zt_1
  have nn := ztn hN.1
  unfold f_X7_shadedSet L_X7_shadedSet_4
  refine zl_II (fun (x1 x2 : Int32) (s : zg_S) => τ = s ∧ ∃ i : Nat, x2.toInt = i ∧ (i : Int) ≤ (g 0).toInt ∧ x1 = sSS g i) (fun (_ x2 : Int32) (_ : zg_S) => (9 - x2.toInt).toNat) ?_ zfu _ _ _ ⟨rfl, 0, e0, by omega, rfl⟩ (by unfold zfu; omega)
  intro rec x1 x2 s hI ih
  obtain ⟨rfl, i, hi, hi2, hx⟩ := hI
  unfold B_X7_shadedSet_4
  rw [show τ 1 0 = g 0 from congrFun h1 0]
  refine zk_ite (fun hle => ?_) (fun hlt => ?_)
  · have := zle hle
    exact zk_some ⟨rfl, by rw [show (g 0).toNatClampNeg = i by omega]; exact hx⟩
  · have gl := znle hlt
    have ex := zTe (zTadd (zTs x2) (zTl zt_1) (by omega) (by omega))
    have nx7 : ∀ y : Int32, x1 ||| y = sSS g (i + 1) → zk (B_X7_shadedSet_30 rec x2 y x1 τ) (fun r s => τ = s ∧ r = sSS g (g 0).toNatClampNeg) := fun y hy => by
      unfold B_X7_shadedSet_30
      exact ih _ (x2 + 1) τ ⟨rfl, i + 1, by rw [ex, hi]; rfl, by omega, hy⟩ (by show (9 - (x2 + 1).toInt).toNat < (9 - x2.toInt).toNat; rw [ex]; omega)
    have eP : sSS g (i + 1) = if sShd g (g 7) (g (11 + 4 * i + 1)) = 0 then sSS g i else sSS g i ||| (1 <<< (Int32.ofNat i &&& 31)) := rfl
    refine zk_e (r_shaded h1 o hi (by omega)) ?_
    refine zk_ite (fun hd => nx7 0 (by rw [eP, if_pos hd, hx]; exact sb_no _)) (fun hd => nx7 _ (by rw [eP, if_neg hd, hx, ← ofNe hi]))
def sAG (g : Nat → Int32) : Nat → Int32
  | 0 => 0
  | k + 1 => sAG g k + g (11 + 4 * k + 2)
theorem v_cloth {σ τ : zg_S} (h : RR σ τ) (a : Int32) : z2 (f_X6_cloth a σ) (f_X7_cloth a τ) SM := by
  refine ro h ?_ (w_X6_cloth a σ) (w_X7_cloth a τ) (W0 (fun _ _ z => z)) (W1 (fun _ _ z => z))
  have o := h.1.2.2.1
  unfold f_X6_cloth f_X7_cloth B_X7_cloth_44
  refine z2_iL (fun ha => ?_) (fun h0 => z2_nR h0 ?_)
  · subst ha
    exact z2_pR rfl (z2_pR (by decide) (z2_some (h.f 7 (by decide))))
  refine z2_iL (fun ha => ?_) (fun h1 => z2_nR h1 ?_)
  · subst ha
    exact z2_pR rfl (z2_pR (by decide) (z2_some (h.f 8 (by decide))))
  refine z2_iL (fun ha => ?_) (fun h2 => z2_nR h2 ?_)
  · subst ha
    exact z2_pR rfl (z2_pR (by decide) (z2_some (h.f 9 (by decide))))
  refine z2_iL (fun ha => ?_) (fun h3 => z2_nR h3 ?_)
  · subst ha
    exact z2_pR rfl (z2_pR (by decide) (z2_some (h.f 10 (by decide))))
  refine z2_iL (fun ha => z2_pR ha ?_) (fun h4 => z2_nR h4 ?_)
  · exact z2_eL (c_heat h.1.1) (z2_eR (r_heat rfl o) (z2_some rfl))
  refine z2_iL (fun ha => z2_pR ha ?_) (fun h5 => z2_nR h5 ?_)
  · refine z2_cL (c_firstShaded h.1.1 o) (fun r s hp => ?_)
    obtain ⟨r', t, e, he⟩ := r_firstShaded (τ := τ) rfl o
    rw [e]
    exact z2_some (fsA_u hp.2 he.2)
  refine z2_iL (fun ha => z2_pR ha ?_) (fun h6 => z2_nR h6 (z2_some rfl))
  refine z2_cL (c_shadedSet h.1.1 o) (fun r s hp => ?_)
  refine z2_cR (r_shadedSet rfl o) (fun r' t hp' => ?_)
  exact z2_some (hp.2.trans hp'.2.symm)
theorem v_book {σ τ : zg_S} (h : RR σ τ) (a : Int32) : z2 (f_X6_book a σ) (f_X7_book a τ) SM := by
  refine ro h ?_ (w_X6_book a σ) (w_X7_book a τ) (W0 (fun _ _ z => z)) (W1 (fun _ _ z => z))
  have o := h.1.2.2.1
  obtain ⟨hN, _⟩ := id o.1
  have e0 := zt_0
  have e1 := zt_1
  have nn := ztn hN.1
  unfold f_X6_book f_X7_book
  refine z2_iL (fun ha => z2_pR ha (z2_some (h.f 4 (by decide)))) (fun h0 => z2_nR h0 ?_)
  refine z2_iL (fun ha => z2_pR ha (z2_some (h.f 3 (by decide)))) (fun h1 => z2_nR h1 ?_)
  refine z2_iL (fun ha => z2_pR ha (z2_some (h.f 5 (by decide)))) (fun h2 => z2_nR h2 ?_)
  refine z2_iL (fun ha => z2_pR ha ?_) (fun h3 => z2_nR h3 (z2_some rfl))
  have A : zk (f_X0_allGoods 153 σ) (fun r _ => r = sAG (τ 1) (τ 1 0).toNatClampNeg) := by
    unfold f_X0_allGoods L_X0_allGoods_4
    refine zl_II (fun (x1 x2 : Int32) (s : zg_S) => σ = s ∧ ∃ i : Nat, x2.toInt = i ∧ (i : Int) ≤ (τ 1 0).toInt ∧ x1 = sAG (τ 1) i) (fun (_ x2 : Int32) (_ : zg_S) => (9 - x2.toInt).toNat) ?_ zfu _ _ _ ⟨rfl, 0, e0, by omega, rfl⟩ (by unfold zfu; omega)
    intro rec x1 x2 s hI ih
    obtain ⟨rfl, i, hi, hi2, hx⟩ := hI
    unfold B_X0_allGoods_4
    rw [show σ 153 3 = τ 1 0 from h.f 0 (by decide)]
    refine zk_ite (fun hle => ?_) (fun hlt => ?_)
    · have := zle hle
      exact zk_some (by rw [show (τ 1 0).toNatClampNeg = i by omega]; exact hx)
    · have gl := znle hlt
      have ni := ztn (i := x2) (by omega)
      refine zk_in (zin_mk (by omega) (by omega)) (zk_let (fun y ey => ?_))
      have ex := zTe (zTadd (zTs x2) (zTl zt_1) (by omega) (by omega))
      refine ih y (x2 + 1) σ ⟨rfl, i + 1, by rw [ex, hi]; rfl, by omega, ?_⟩ (by show (9 - (x2 + 1).toInt).toNat < (9 - x2.toInt).toNat; rw [ex]; omega)
      rw [ey, hx, show x2.toNatClampNeg = i by omega, show σ (153 + 1 + 2 + i) 2 = τ 1 (11 + 4 * i + 2) from h.s i 2 (by omega) (by decide)]
      rfl
  have B : zk (L_X7_book_63 a zfu 0 0 τ) (fun r _ => r = sAG (τ 1) (τ 1 0).toNatClampNeg) := by
    unfold L_X7_book_63
    refine zl_II (fun (x1 x2 : Int32) (s : zg_S) => τ = s ∧ ∃ i : Nat, x2.toInt = i ∧ (i : Int) ≤ (τ 1 0).toInt ∧ x1 = sAG (τ 1) i) (fun (_ x2 : Int32) (_ : zg_S) => (9 - x2.toInt).toNat) ?_ zfu _ _ _ ⟨rfl, 0, e0, by omega, rfl⟩ (by unfold zfu; omega)
    intro rec x1 x2 s hI ih
    obtain ⟨rfl, i, hi, hi2, hx⟩ := hI
    unfold B_X7_book_63
    refine zk_ite (fun hle => ?_) (fun hlt => ?_)
    · have := zle hle
      exact zk_some (by rw [show (τ 1 0).toNatClampNeg = i by omega]; exact hx)
    · have gl := znle hlt
      refine zk_e (r_of rfl hi (by omega) zt_2 (by decide)) ?_
      have ex := zTe (zTadd (zTs x2) (zTl zt_1) (by omega) (by omega))
      exact ih _ (x2 + 1) τ ⟨rfl, i + 1, by rw [ex, hi]; rfl, by omega, by rw [hx]; rfl⟩ (by show (9 - (x2 + 1).toInt).toNat < (9 - x2.toInt).toNat; rw [ex]; omega)
  refine z2_cL A (fun r s hp => ?_)
  obtain ⟨r', t, e, hp'⟩ := B
  rw [e]
  exact z2_some (hp.trans hp'.symm)
/-- which text counts: where both find it -/
theorem cC_c {g : Nat → Int32} (o : gOK g) (key : Int32) : (0 ≤ (sCt g key).toInt ∧ cC g key = sCt g key ∧ (sCt g key).toInt < (g 1).toInt ∧ g (47 + 200 * (sCt g key).toNatClampNeg) = key) ∨ ((sCt g key).toInt < 0 ∧ cC g key = -1000000005) := by
  have hn := o.2.2.1
  have nn := ztn hn.1
  have e0 := zt_0
  have hb := sCn_b g key (g 1).toNatClampNeg (by omega)
  unfold cC
  by_cases c : 0 ≤ sCt g key
  · have := zle c
    rw [if_pos c]
    refine Or.inl ⟨by omega, rfl, ?_, hb.2.2 (by show 0 ≤ (sCt g key).toInt; omega)⟩
    have := hb.2.1
    show (sCn g key (g 1).toNatClampNeg).toInt < _
    omega
  · have := znle c
    rw [if_neg c]
    exact Or.inr ⟨by omega, rfl⟩
theorem v_fee {σ τ : zg_S} (h : RR σ τ) : z2 (f_X6_fee σ) (f_X7_fee τ) SM := by
  refine ro h ?_ (w_X6_fee σ) (w_X7_fee τ) (fun p k z => z) (fun p k z => z)
  have o := h.1.2.2.1
  have e0 := zt_0
  have e13 := zt_13
  have hn := o.2.2.1
  unfold f_X6_fee f_X7_fee
  rw [show σ 155 1 = cC (τ 1) 1 from h.1.2.1.1.2.1]
  refine z2_cR (r_counts 1 τ (τ 1) rfl hn) (fun r t hp => ?_)
  obtain ⟨rfl, rfl⟩ := hp
  rcases cC_c o 1 with ⟨c0, c1, c2, c3⟩ | ⟨c0, c1⟩
  · rw [c1]
    have nt := ztn c0
    have ht : ((sCt (τ 1) 1).toNatClampNeg : Int) < (τ 1 1).toInt := by omega
    refine z2_eL (c_within1 σ ⟨by omega, by omega⟩) (z2_nL one_ne (z2_pL (zin_mk c0 (by omega)) ?_))
    refine z2_pR (Int32.le_iff_toInt_le.mpr (by omega)) ?_
    refine z2_lR (fun t1 q1 => z2_lR (fun t2 q2 => ?_))
    have r1 : t1 1 = τ 1 := by rw [q1]; exact zup_ne rfl
    have r2 : t2 1 = τ 1 := by rw [q2]; exact (zup_ne rfl).trans r1
    have v116 : t2 14 116 = τ 1 5 := by rw [q2]; exact zgot.trans (congrFun r1 5)
    have v99 : t2 14 99 = τ 1 3 := by rw [q2]; refine (zkeepf rfl).trans ?_; rw [q1]; exact zgot
    rw [show σ 153 10 = τ 1 3 from h.f 3 (by decide), show σ 153 12 = τ 1 5 from h.f 5 (by decide)]
    refine z2_cL (c_workOut _ (τ 1 3) (τ 1 5) 0 σ (τ 1) (h.1.2.1.2 _ ht) (o.2.2.2.1 _ ht) (o.2.2.2.2 _ ht)) (fun r s hp => ?_)
    refine z2_cR (r_worked (sCt (τ 1) 1) (sCt (τ 1) 1).toNatClampNeg (τ 1 3) (τ 1 5) 0 t2 (τ 1) r2 (by omega) (by omega) (h.1.2.1.tv _ ht) (o.2.2.2.1 _ ht) ?_) (fun r' t hp' => z2_some (hp.trans hp'.symm))
    intro v c' hno
    rw [c3] at hno ⊢
    rcases hno with ⟨x, _⟩ | ⟨_, x⟩ | ⟨x, _⟩
    · exact absurd x (by decide)
    · rcases x with ⟨x, _⟩ | ⟨x, _⟩
      · rw [x]; exact v99
      · rw [x]; exact v116
    · exact absurd x (by decide)
  · rw [c1]
    refine z2_eL (c_within0 σ (by decide)) (z2_pL rfl ?_)
    exact z2_nR (fun z => by have := zle z; omega) (z2_some (h.f 3 (by decide)))
theorem v_fine {σ τ : zg_S} (h : RR σ τ) (a : Int32) : z2 (f_X6_fine a σ) (f_X7_fine a τ) SM := by
  refine ro h ?_ (w_X6_fine a σ) (w_X7_fine a τ) (fun p k z => z) (fun p k z => z)
  have o := h.1.2.2.1
  have e0 := zt_0
  have e13 := zt_13
  have hn := o.2.2.1
  unfold f_X6_fine f_X7_fine
  refine z2_stall h (z2_pL rfl (z2_pR rfl (z2_some rfl))) (fun n hn8 hk h8 => ?_)
  refine z2_nL one_ne (z2_nR one_ne ?_)
  have en : a.toNatClampNeg = n := zTn (zTl hn8) rfl
  refine z2_pL (zin_mk (by omega) (by omega)) ?_
  rw [en, show σ 155 2 = cC (τ 1) 2 from h.1.2.1.1.2.2]
  refine z2_cR (r_counts 2 τ (τ 1) rfl hn) (fun r t hp => ?_)
  obtain ⟨rfl, rfl⟩ := hp
  rcases cC_c o 2 with ⟨c0, c1, c2, c3⟩ | ⟨c0, c1⟩
  · rw [c1]
    have nt := ztn c0
    have ht : ((sCt (τ 1) 2).toNatClampNeg : Int) < (τ 1 1).toInt := by omega
    refine z2_eL (c_within1 σ ⟨by omega, by omega⟩) (z2_nL one_ne (z2_pL (zin_mk c0 (by omega)) ?_))
    rw [h.s n 2 hk (by decide), h.s n 1 hk (by decide)]
    refine z2_pR (Int32.le_iff_toInt_le.mpr (by omega)) ?_
    refine z2_eR (r_of rfl hn8 h8 zt_2 (by decide)) (z2_lR (fun t1 q1 => ?_))
    have r1 : t1 1 = τ 1 := by rw [q1]; exact zup_ne rfl
    refine z2_eL (c_shades h.1.1 _) (z2_eR (r_shaded r1 o hn8 hk) ?_)
    have both : ∀ y : Int32, z2 (zbd (f_X5_workOut (11 + 3 * (sCt (τ 1) 2).toNatClampNeg) (τ 1 (11 + 4 * n + 2)) y 0 σ) (fun r38 σ39 => some (r38, σ39))) (B_X7_fine_60 a (sCt (τ 1) 2) y 115 t1) (fun r _ r' _ => r = r') := fun y => by
      unfold B_X7_fine_60
      refine z2_pR (by decide) (z2_lR (fun t2 q2 => ?_))
      have r2 : t2 1 = τ 1 := by rw [q2]; exact (zup_ne rfl).trans r1
      have v115 : t2 14 115 = y := by rw [q2]; exact zgot
      have v103 : t2 14 103 = τ 1 (11 + 4 * n + 2) := by rw [q2]; refine (zkeepf rfl).trans ?_; rw [q1]; exact zgot
      refine z2_cL (c_workOut _ (τ 1 (11 + 4 * n + 2)) y 0 σ (τ 1) (h.1.2.1.2 _ ht) (o.2.2.2.1 _ ht) (o.2.2.2.2 _ ht)) (fun r s hp => ?_)
      refine z2_cR (r_worked (sCt (τ 1) 2) (sCt (τ 1) 2).toNatClampNeg (τ 1 (11 + 4 * n + 2)) y 0 t2 (τ 1) r2 (by omega) (by omega) (h.1.2.1.tv _ ht) (o.2.2.2.1 _ ht) ?_) (fun r' t hp' => z2_some (hp.trans hp'.symm))
      intro v c' hno
      rw [c3] at hno ⊢
      rcases hno with ⟨x, _⟩ | ⟨x, _⟩ | ⟨_, x⟩
      · exact absurd x (by decide)
      · exact absurd x (by decide)
      · rcases x with ⟨x, _⟩ | ⟨x, _⟩
        · rw [x]; exact v103
        · rw [x]; exact v115
    refine z2_iL (fun hz => z2_pR hz (both 0)) (fun hz => z2_nR hz (both 1))
  · rw [c1]
    refine z2_eL (c_within0 σ (by decide)) (z2_pL rfl ?_)
    refine z2_nR (fun z => by have := zle z; omega) ?_
    rw [h.s n 2 hk (by decide)]
    exact z2_eR (r_of rfl hn8 h8 zt_2 (by decide)) (z2_some rfl)
