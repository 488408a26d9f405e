/-! the tape, word by word -/
def tk (σ s : zg_S) : Prop := (∀ p, p ≠ 0 → s p = σ p) ∧ ∀ k, (k < 15 ∨ 19 < k) → s 0 k = σ 0 k
theorem tk.rf {σ : zg_S} : tk σ σ := ⟨fun _ _ => rfl, fun _ _ => rfl⟩
theorem tk.up {σ s : zg_S} {k : Nat} {v : Int32} (h : tk σ s) (h1 : 15 ≤ k) (h2 : k ≤ 19) : tk σ (zg_up s 0 k v) := ⟨fun p hp => (zg_row_ne hp).trans (h.1 p hp), fun j hj => (zkeepn (by omega)).trans (h.2 j hj)⟩
theorem tk.n {σ s : zg_S} (h : tk σ s) : s 0 14 = σ 0 14 := h.2 14 (by decide)
theorem tk.t {σ s : zg_S} (h : tk σ s) : s 13 = σ 13 := h.1 13 (by decide)
def cL (σ : zg_S) (i : Nat) : Prop := (i : Int) < (σ 0 14).toInt ∧ 97 ≤ (σ 13 i).toInt ∧ (σ 13 i).toInt ≤ 122
def cD (σ : zg_S) (i : Nat) : Prop := (i : Int) < (σ 0 14).toInt ∧ 48 ≤ (σ 13 i).toInt ∧ (σ 13 i).toInt ≤ 57
theorem cL_tk {σ s : zg_S} {i : Nat} (h : tk σ s) : cL s i ↔ cL σ i := by
  unfold cL
  rw [h.n, h.t]
theorem cD_tk {σ s : zg_S} {i : Nat} (h : tk σ s) : cD s i ↔ cD σ i := by
  unfold cD
  rw [h.n, h.t]
theorem x_isIn (a lo hi : Int32) (σ : zg_S) : zk (f_X7_isIn (Int32.toInt64 a) (Int32.toInt64 lo) (Int32.toInt64 hi) σ) (fun r s => σ = s ∧ ((r = 0 ∧ ¬ (lo.toInt ≤ a.toInt ∧ a.toInt ≤ hi.toInt)) ∨ (r = 1 ∧ lo.toInt ≤ a.toInt ∧ a.toInt ≤ hi.toInt))) := by
  unfold f_X7_isIn
  refine zk_ite (fun h1 => ?_) (fun h1 => ?_)
  · have g1 := (lg_cmp_lt _ _).mp h1
    rw [Int64.lt_iff_toInt_lt, zI64, zI64] at g1
    exact zk_some ⟨rfl, Or.inl ⟨rfl, by omega⟩⟩
  have g1 : ¬ _ := fun z => h1 ((lg_cmp_lt _ _).mpr z)
  refine zk_ite (fun h2 => ?_) (fun h2 => ?_)
  · have g2 := (lg_cmp_gt _ _).mp h2
    rw [Int64.lt_iff_toInt_lt, zI64, zI64] at g2
    exact zk_some ⟨rfl, Or.inl ⟨rfl, by omega⟩⟩
  have g2 : ¬ _ := fun z => h2 ((lg_cmp_gt _ _).mpr z)
  rw [Int64.lt_iff_toInt_lt, zI64, zI64] at g1 g2
  exact zk_some ⟨rfl, Or.inr ⟨rfl, by omega, by omega⟩⟩
theorem x_isLetter (a : Int32) (σ : zg_S) (hσ : IMc σ) (h0 : 0 ≤ a.toInt) : zk (f_X7_isLetter a σ) (fun r s => σ = s ∧ ((r = 0 ∧ ¬ cL σ a.toNatClampNeg) ∨ (r = 1 ∧ cL σ a.toNatClampNeg))) := by
  have f14 : 0 ≤ (σ 0 14).toInt ∧ (σ 0 14).toInt ≤ 96 := hσ 0 14
  have hn := ztn h0
  unfold f_X7_isLetter
  refine zk_ite (fun h => ?_) (fun h => ?_)
  · have g := zle h
    exact zk_some ⟨rfl, Or.inl ⟨rfl, fun z => by have := z.1; omega⟩⟩
  have g := znle h
  refine zk_in (zin_mk h0 (by omega)) ?_
  refine zk_call (x_isIn _ 97 122 σ) (fun r s hp => ?_)
  obtain ⟨rfl, hr⟩ := hp
  rw [show (97 : Int32).toInt = 97 by decide, show (122 : Int32).toInt = 122 by decide] at hr
  refine zk_ite (fun h => ?_) (fun h => ?_)
  · subst h
    refine zk_some ⟨rfl, Or.inl ⟨rfl, fun z => ?_⟩⟩
    rcases hr with hr | hr
    · exact hr.2 z.2
    · exact absurd hr.1 (by decide)
  · rcases hr with hr | hr
    · exact absurd hr.1 h
    · exact zk_some ⟨rfl, Or.inr ⟨rfl, by omega, hr.2⟩⟩
theorem x_isDigit (a : Int32) (σ : zg_S) (hσ : IMc σ) (h0 : 0 ≤ a.toInt) : zk (f_X7_isDigit a σ) (fun r s => σ = s ∧ ((r = 0 ∧ ¬ cD σ a.toNatClampNeg) ∨ (r = 1 ∧ cD σ a.toNatClampNeg))) := by
  have f14 : 0 ≤ (σ 0 14).toInt ∧ (σ 0 14).toInt ≤ 96 := hσ 0 14
  have hn := ztn h0
  unfold f_X7_isDigit
  refine zk_ite (fun h => ?_) (fun h => ?_)
  · have g := zle h
    exact zk_some ⟨rfl, Or.inl ⟨rfl, fun z => by have := z.1; omega⟩⟩
  have g := znle h
  refine zk_in (zin_mk h0 (by omega)) ?_
  refine zk_call (x_isIn _ 48 57 σ) (fun r s hp => ?_)
  obtain ⟨rfl, hr⟩ := hp
  rw [show (48 : Int32).toInt = 48 by decide, show (57 : Int32).toInt = 57 by decide] at hr
  refine zk_ite (fun h => ?_) (fun h => ?_)
  · subst h
    refine zk_some ⟨rfl, Or.inl ⟨rfl, fun z => ?_⟩⟩
    rcases hr with hr | hr
    · exact hr.2 z.2
    · exact absurd hr.1 (by decide)
  · rcases hr with hr | hr
    · exact absurd hr.1 h
    · exact zk_some ⟨rfl, Or.inr ⟨rfl, by omega, hr.2⟩⟩
/-- the first k digits from b on, as a number -/
def nv (T : Nat → Int32) (b : Nat) : Nat → Int32
  | 0 => 0
  | k + 1 => 10 * nv T b k + T (b + k) - 48
def tg (σ : zg_S) (B : Int32) : Prop := 0 < (σ 0 16).toInt ∧ (σ 0 17 = 1 ∨ σ 0 17 = 2) ∧ B = σ 0 16
/-- the next word or sign lies from B to E; K what it is, N the number, C the letter or sign -/
def nQ (σ : zg_S) (B E K N C : Int32) : Prop := (σ 0 16).toInt ≤ B.toInt ∧ B.toInt ≤ E.toInt ∧ E.toInt ≤ (σ 0 14).toInt ∧ (∀ i : Nat, (σ 0 16).toInt ≤ i → (i : Int) < B.toInt → σ 13 i = 32) ∧
  ((B.toInt = (σ 0 14).toInt ∧ K = 0 ∧ E = B) ∨
   (B.toInt < E.toInt ∧ (∀ i : Nat, B.toInt ≤ i → (i : Int) < E.toInt → cL σ i) ∧ ¬ cL σ E.toNatClampNeg ∧ ((tg σ B ∧ K = 4) ∨ (¬ tg σ B ∧ K = 1)) ∧ ((E.toInt = B.toInt + 1 ∧ C = σ 13 B.toNatClampNeg) ∨ (¬ E.toInt = B.toInt + 1 ∧ C = 0))) ∨
   (B.toInt < E.toInt ∧ (∀ i : Nat, B.toInt ≤ i → (i : Int) < E.toInt → cD σ i) ∧ ¬ cD σ E.toNatClampNeg ∧ N = nv (σ 13) B.toNatClampNeg (min 4 (E.toInt - B.toInt).toNat) ∧ (((tg σ B ∨ 4 < E.toInt - B.toInt) ∧ K = 4) ∨ (¬ (tg σ B ∨ 4 < E.toInt - B.toInt) ∧ K = 2))) ∨
   (E.toInt = B.toInt + 1 ∧ ¬ cL σ B.toNatClampNeg ∧ ¬ cD σ B.toNatClampNeg ∧ ¬ σ 13 B.toNatClampNeg = 32 ∧ K = 3 ∧ C = σ 13 B.toNatClampNeg))
def NQ (σ : zg_S) (_ : Int32) (s : zg_S) : Prop := IMc s ∧ tk σ s ∧ nQ σ (s 0 15) (s 0 16) (s 0 17) (s 0 18) (s 0 19)
/-- what is known when the word begins: only blanks lie ahead of B -/
def nB (σ : zg_S) (B : Int32) : Prop := (σ 0 16).toInt ≤ B.toInt ∧ (∀ i : Nat, (σ 0 16).toInt ≤ i → (i : Int) < B.toInt → σ 13 i = 32)
theorem zsubn (a b : Int32) (ha : 0 ≤ a.toInt) (hb : 0 ≤ b.toInt) : (a - b).toInt = a.toInt - b.toInt := by
  have h1 := Int32.toInt_lt a
  have h2 := Int32.toInt_lt b
  exact zsub a b (by omega) (by omega)
theorem nt162 (y0 B E : Int32) (σ s : zg_S) (hs : IMc s) (hk : tk σ s) (h15 : s 0 15 = B) (h16 : s 0 16 = E) (b0 : 0 ≤ B.toInt) (hB : nB σ B) (hl : B.toInt < E.toInt) (hn : E.toInt ≤ (σ 0 14).toInt) (hL : ∀ i : Nat, B.toInt ≤ i → (i : Int) < E.toInt → cL σ i) (hE : ¬ cL σ E.toNatClampNeg) (hy : (tg σ B ∧ y0 = 4) ∨ (¬ tg σ B ∧ y0 = 1)) : zk (B_X7_nextToken_162 y0 s) (NQ σ) := by
  have e1 := zt_1
  have f14 : 0 ≤ (s 0 14).toInt ∧ (s 0 14).toInt ≤ 96 := hs 0 14
  rw [hk.n] at f14
  unfold B_X7_nextToken_162
  refine zk_let (fun t q => ?_)
  have ht : IMc t := by rw [q]; exact IMc.up hs (zTs _) trivial
  have kt : tk σ t := by rw [q]; exact hk.up (by decide) (by decide)
  have t15 : t 0 15 = B := by rw [q]; exact (zkeepf rfl).trans h15
  have t16 : t 0 16 = E := by rw [q]; exact (zkeepf rfl).trans h16
  have t17 : t 0 17 = y0 := by rw [q]; exact zgot
  rw [t15, t16]
  have es := zsubn E B (by omega) b0
  refine zk_ite (fun h => ?_) (fun h => ?_)
  · have g := zeq h
    refine zk_in (zin_mk b0 (by omega)) ?_
    refine zk_let (fun y ey => ?_)
    refine zk_let (fun u q => ?_)
    rw [kt.t] at ey
    refine zk_some ⟨by rw [q]; exact IMc.up ht (zTs _) trivial, by rw [q]; exact kt.up (by decide) (by decide), ?_⟩
    have u15 : u 0 15 = B := by rw [q]; exact (zkeepf rfl).trans t15
    have u16 : u 0 16 = E := by rw [q]; exact (zkeepf rfl).trans t16
    have u17 : u 0 17 = y0 := by rw [q]; exact (zkeepf rfl).trans t17
    have u19 : u 0 19 = y := by rw [q]; exact zgot
    rw [u15, u16, u17, u19]
    exact ⟨hB.1, by omega, hn, hB.2, Or.inr (Or.inl ⟨hl, hL, hE, hy, Or.inl ⟨by omega, ey⟩⟩)⟩
  · have g := zne h
    refine zk_let (fun u q => ?_)
    refine zk_some ⟨by rw [q]; exact IMc.up ht (zTs _) trivial, by rw [q]; exact kt.up (by decide) (by decide), ?_⟩
    have u15 : u 0 15 = B := by rw [q]; exact (zkeepf rfl).trans t15
    have u16 : u 0 16 = E := by rw [q]; exact (zkeepf rfl).trans t16
    have u17 : u 0 17 = y0 := by rw [q]; exact (zkeepf rfl).trans t17
    have u19 : u 0 19 = 0 := by rw [q]; exact zgot
    rw [u15, u16, u17, u19]
    exact ⟨hB.1, by omega, hn, hB.2, Or.inr (Or.inl ⟨hl, hL, hE, hy, Or.inr ⟨by omega, rfl⟩⟩)⟩
theorem nt128 (y0 B : Int32) (σ s : zg_S) (hs : IMc s) (hk : tk σ s) (h15 : s 0 15 = B) (h16 : s 0 16 = B) (b0 : 0 ≤ B.toInt) (hB : nB σ B) (hn : B.toInt < (σ 0 14).toInt) (hL : cL σ B.toNatClampNeg) (hy : (tg σ B ∧ y0 = 1) ∨ (¬ tg σ B ∧ y0 = 0)) : zk (L_X7_nextToken_128 zfu y0 s) (NQ σ) := by
  have e1 := zt_1
  have f14 : 0 ≤ (s 0 14).toInt ∧ (s 0 14).toInt ≤ 96 := hs 0 14
  rw [hk.n] at f14
  have nb := ztn b0
  unfold L_X7_nextToken_128
  refine zl_I (fun (x : Int32) (t : zg_S) => x = y0 ∧ IMc t ∧ tk σ t ∧ t 0 15 = B ∧ B.toInt ≤ (t 0 16).toInt ∧ (t 0 16).toInt ≤ (σ 0 14).toInt ∧ (∀ i : Nat, B.toInt ≤ i → (i : Int) < (t 0 16).toInt → cL σ i)) (fun (_ : Int32) (t : zg_S) => (97 - (t 0 16).toInt).toNat) ?_ zfu _ _ ⟨rfl, hs, hk, h15, by rw [h16]; omega, by rw [h16]; omega, fun i h1 h2 => by rw [h16] at h2; omega⟩ (by unfold zfu; show (97 - (s 0 16).toInt).toNat < 100000; rw [h16]; omega)
  intro rec x t hI ih
  obtain ⟨rfl, ht, kt, t15, i1, i2, i3⟩ := hI
  unfold B_X7_nextToken_128
  have ne := ztn (i := t 0 16) (by omega)
  refine zk_call (x_isLetter (t 0 16) t ht (by omega)) (fun r u hp => ?_)
  obtain ⟨rfl, hr⟩ := hp
  rw [cL_tk kt] at hr
  refine zk_ite (fun hr0 => ?_) (fun hr0 => ?_)
  · rcases hr with ⟨-, hr⟩ | ⟨hr, -⟩
    · have hlt : B.toInt < (t 0 16).toInt := by
        by_cases c : (t 0 16).toInt = B.toInt
        · exact absurd hL (by rw [show B = t 0 16 from (Int32.toInt_inj.mp c).symm]; exact hr)
        · omega
      refine zk_ite (fun hx => ?_) (fun hx => ?_)
      · rcases hy with hy | hy
        · exact absurd (hy.2.symm.trans hx) (by decide)
        · exact nt162 1 B (t 0 16) σ t ht kt t15 rfl b0 hB hlt i2 i3 hr (Or.inr ⟨hy.1, rfl⟩)
      · rcases hy with hy | hy
        · exact nt162 4 B (t 0 16) σ t ht kt t15 rfl b0 hB hlt i2 i3 hr (Or.inl ⟨hy.1, rfl⟩)
        · exact absurd hy.2 hx
    · exact absurd (hr.symm.trans hr0) (by decide)
  · rcases hr with ⟨hr, -⟩ | ⟨-, hr⟩
    · exact absurd hr hr0
    · have hlt := hr.1
      refine zk_let (fun u q => ?_)
      have ex := zTe (zTadd (zTs (t 0 16)) (zTl zt_1) (by omega) (by omega))
      have u16 : (u 0 16).toInt = (t 0 16).toInt + 1 := by rw [q]; exact (congrArg Int32.toInt zgot).trans ex
      refine ih x u ⟨rfl, by rw [q]; exact IMc.up ht (zTl ex) ⟨by omega, by omega⟩, by rw [q]; exact kt.up (by decide) (by decide), by rw [q]; exact (zkeepf rfl).trans t15, by omega, by omega, fun i h1 h2 => ?_⟩ (by show (97 - (u 0 16).toInt).toNat < (97 - (t 0 16).toInt).toNat; omega)
      by_cases c : (i : Int) < (t 0 16).toInt
      · exact i3 i h1 c
      · rw [show i = (t 0 16).toNatClampNeg by omega]
        exact hr
theorem nt300 (B E N : Int32) (σ s : zg_S) (hs : IMc s) (hk : tk σ s) (h15 : s 0 15 = B) (h16 : s 0 16 = E) (h18 : s 0 18 = N) (hB : nB σ B) (hl : B.toInt < E.toInt) (hn : E.toInt ≤ (σ 0 14).toInt) (hL : ∀ i : Nat, B.toInt ≤ i → (i : Int) < E.toInt → cD σ i) (hE : ¬ cD σ E.toNatClampNeg) (hN : N = nv (σ 13) B.toNatClampNeg (min 4 (E.toInt - B.toInt).toNat)) (hy : tg σ B ∨ 4 < E.toInt - B.toInt) : zk (B_X7_nextToken_300 s) (NQ σ) := by
  unfold B_X7_nextToken_300
  refine zk_let (fun u q => ?_)
  refine zk_some ⟨by rw [q]; exact IMc.up hs (zTs _) trivial, by rw [q]; exact hk.up (by decide) (by decide), ?_⟩
  have u15 : u 0 15 = B := by rw [q]; exact (zkeepf rfl).trans h15
  have u16 : u 0 16 = E := by rw [q]; exact (zkeepf rfl).trans h16
  have u18 : u 0 18 = N := by rw [q]; exact (zkeepf rfl).trans h18
  have u17 : u 0 17 = 4 := by rw [q]; exact zgot
  rw [u15, u16, u17, u18]
  exact ⟨hB.1, by omega, hn, hB.2, Or.inr (Or.inr (Or.inl ⟨hl, hL, hE, hN, Or.inl ⟨hy, rfl⟩⟩))⟩
theorem nt214 (y0 B : Int32) (σ s : zg_S) (hs : IMc s) (hk : tk σ s) (h15 : s 0 15 = B) (h16 : s 0 16 = B) (h18 : s 0 18 = 0) (b0 : 0 ≤ B.toInt) (hB : nB σ B) (hn : B.toInt < (σ 0 14).toInt) (hL : cD σ B.toNatClampNeg) (hy : (tg σ B ∧ y0 = 1) ∨ (¬ tg σ B ∧ y0 = 0)) : zk (L_X7_nextToken_214 zfu y0 s) (NQ σ) := by
  have e1 := zt_1
  have e4 := zt_4
  have f14 : 0 ≤ (s 0 14).toInt ∧ (s 0 14).toInt ≤ 96 := hs 0 14
  rw [hk.n] at f14
  have nb := ztn b0
  unfold L_X7_nextToken_214
  refine zl_I (fun (x : Int32) (t : zg_S) => x = y0 ∧ IMc t ∧ tk σ t ∧ t 0 15 = B ∧ B.toInt ≤ (t 0 16).toInt ∧ (t 0 16).toInt ≤ (σ 0 14).toInt ∧ (∀ i : Nat, B.toInt ≤ i → (i : Int) < (t 0 16).toInt → cD σ i) ∧ t 0 18 = nv (σ 13) B.toNatClampNeg (min 4 ((t 0 16).toInt - B.toInt).toNat)) (fun (_ : Int32) (t : zg_S) => (97 - (t 0 16).toInt).toNat) ?_ zfu _ _ ⟨rfl, hs, hk, h15, by rw [h16]; omega, by rw [h16]; omega, fun i h1 h2 => by rw [h16] at h2; omega, by rw [h16, h18, show (B.toInt - B.toInt).toNat = 0 by omega]; rfl⟩ (by unfold zfu; show (97 - (s 0 16).toInt).toNat < 100000; rw [h16]; omega)
  intro rec x t hI ih
  obtain ⟨rfl, ht, kt, t15, i1, i2, i3, i4⟩ := hI
  unfold B_X7_nextToken_214
  have ne := ztn (i := t 0 16) (by omega)
  refine zk_call (x_isDigit (t 0 16) t ht (by omega)) (fun r u hp => ?_)
  obtain ⟨rfl, hr⟩ := hp
  rw [cD_tk kt] at hr
  have es := zsubn (t 0 16) B (by omega) b0
  rw [t15]
  refine zk_ite (fun hr0 => ?_) (fun hr0 => ?_)
  · rcases hr with ⟨-, hr⟩ | ⟨hr, -⟩
    · have hlt : B.toInt < (t 0 16).toInt := by
        by_cases c : (t 0 16).toInt = B.toInt
        · exact absurd hL (by rw [show B = t 0 16 from (Int32.toInt_inj.mp c).symm]; exact hr)
        · omega
      refine zk_ite (fun hx => ?_) (fun hx => ?_)
      · rcases hy with hy | hy
        · exact absurd (hy.2.symm.trans hx) (by decide)
        · refine zk_ite (fun h4 => ?_) (fun h4 => ?_)
          · have g4 := zle h4
            refine zk_let (fun u q => ?_)
            refine zk_some ⟨by rw [q]; exact IMc.up ht (zTs _) trivial, by rw [q]; exact kt.up (by decide) (by decide), ?_⟩
            have u15 : u 0 15 = B := by rw [q]; exact (zkeepf rfl).trans t15
            have u16 : u 0 16 = t 0 16 := by rw [q]; exact zkeepf rfl
            have u18 : u 0 18 = t 0 18 := by rw [q]; exact zkeepf rfl
            have u17 : u 0 17 = 2 := by rw [q]; exact zgot
            rw [u15, u16, u17, u18]
            exact ⟨hB.1, by omega, i2, hB.2, Or.inr (Or.inr (Or.inl ⟨hlt, i3, hr, i4, Or.inr ⟨fun z => z.elim hy.1 (fun z => by omega), rfl⟩⟩))⟩
          · have g4 := znle h4
            exact nt300 B (t 0 16) (t 0 18) σ t ht kt t15 rfl rfl hB hlt i2 i3 hr i4 (Or.inr (by omega))
      · rcases hy with hy | hy
        · exact nt300 B (t 0 16) (t 0 18) σ t ht kt t15 rfl rfl hB hlt i2 i3 hr i4 (Or.inl hy.1)
        · exact absurd hy.2 hx
    · exact absurd (hr.symm.trans hr0) (by decide)
  · rcases hr with ⟨hr, -⟩ | ⟨-, hr⟩
    · exact absurd hr hr0
    · have hlt := hr.1
      have ex := zTe (zTadd (zTs (t 0 16)) (zTl zt_1) (by omega) (by omega))
      have ee : ∀ y : Int32, y = nv (σ 13) B.toNatClampNeg (min 4 ((t 0 16).toInt + 1 - B.toInt).toNat) → zk (B_X7_nextToken_266 rec x y t) (NQ σ) := fun y hy' => by
        unfold B_X7_nextToken_266
        refine zk_let (fun u q => ?_)
        have hu : IMc u := by rw [q]; exact IMc.up ht (zTs _) trivial
        have ku : tk σ u := by rw [q]; exact kt.up (by decide) (by decide)
        have u15 : u 0 15 = B := by rw [q]; exact (zkeepf rfl).trans t15
        have u16 : u 0 16 = t 0 16 := by rw [q]; exact zkeepf rfl
        have u18 : u 0 18 = y := by rw [q]; exact zgot
        rw [u16]
        refine zk_let (fun w q => ?_)
        have w16 : (w 0 16).toInt = (t 0 16).toInt + 1 := by rw [q]; exact (congrArg Int32.toInt zgot).trans ex
        refine ih x w ⟨rfl, by rw [q]; exact IMc.up hu (zTl ex) ⟨by omega, by omega⟩, by rw [q]; exact ku.up (by decide) (by decide), by rw [q]; exact (zkeepf rfl).trans u15, by omega, by omega, fun i h1 h2 => ?_, ?_⟩ (by show (97 - (w 0 16).toInt).toNat < (97 - (t 0 16).toInt).toNat; omega)
        · by_cases c : (i : Int) < (t 0 16).toInt
          · exact i3 i h1 c
          · rw [show i = (t 0 16).toNatClampNeg by omega]
            exact hr
        · rw [w16]
          have w18 : w 0 18 = y := by rw [q]; exact (zkeepf rfl).trans u18
          rw [w18]
          exact hy'
      refine zk_ite (fun h4 => ?_) (fun h4 => ?_)
      · have g4 := zle h4
        refine ee _ ?_
        rw [i4, show min 4 ((t 0 16).toInt - B.toInt).toNat = 4 by omega, show min 4 ((t 0 16).toInt + 1 - B.toInt).toNat = 4 by omega]
      · have g4 := znle h4
        refine zk_in (zin_mk (by omega) (by omega)) ?_
        refine ee _ ?_
        rw [i4, kt.t, show min 4 ((t 0 16).toInt - B.toInt).toNat = ((t 0 16).toInt - B.toInt).toNat by omega, show min 4 ((t 0 16).toInt + 1 - B.toInt).toNat = ((t 0 16).toInt - B.toInt).toNat + 1 by omega]
        show _ = 10 * nv (σ 13) B.toNatClampNeg ((t 0 16).toInt - B.toInt).toNat + σ 13 (B.toNatClampNeg + ((t 0 16).toInt - B.toInt).toNat) - 48
        rw [show B.toNatClampNeg + ((t 0 16).toInt - B.toInt).toNat = (t 0 16).toNatClampNeg by omega]
theorem nt89 (y0 : Int32) (σ s : zg_S) (hs : IMc s) (hk : tk σ s) (hB : nB σ (s 0 16)) (hn : (s 0 16).toInt ≤ (σ 0 14).toInt) (hb : (s 0 16).toInt = (σ 0 14).toInt ∨ ¬ σ 13 (s 0 16).toNatClampNeg = 32) (hy : (tg σ (s 0 16) ∧ y0 = 1) ∨ (¬ tg σ (s 0 16) ∧ y0 = 0)) : zk (B_X7_nextToken_89 y0 s) (NQ σ) := by
  have e1 := zt_1
  have f14 : 0 ≤ (s 0 14).toInt ∧ (s 0 14).toInt ≤ 96 := hs 0 14
  rw [hk.n] at f14
  have f16 : 0 ≤ (s 0 16).toInt ∧ (s 0 16).toInt ≤ 96 := hs 0 16
  have nb := ztn f16.1
  unfold B_X7_nextToken_89
  refine zk_let (fun t q => ?_)
  have ht : IMc t := by rw [q]; exact IMc.up hs (zTs _) f16
  have kt : tk σ t := by rw [q]; exact hk.up (by decide) (by decide)
  have t15 : t 0 15 = s 0 16 := by rw [q]; exact zgot
  have t16 : t 0 16 = s 0 16 := by rw [q]; exact zkeepf rfl
  rw [t15, kt.n]
  refine zk_ite (fun h => ?_) (fun h => ?_)
  · refine zk_let (fun u q => ?_)
    refine zk_some ⟨by rw [q]; exact IMc.up ht (zTs _) trivial, by rw [q]; exact kt.up (by decide) (by decide), ?_⟩
    have u15 : u 0 15 = s 0 16 := by rw [q]; exact (zkeepf rfl).trans t15
    have u16 : u 0 16 = s 0 16 := by rw [q]; exact (zkeepf rfl).trans t16
    have u17 : u 0 17 = 0 := by rw [q]; exact zgot
    rw [u15, u16, u17]
    exact ⟨hB.1, Int.le_refl _, hn, hB.2, Or.inl ⟨zeq h, rfl, rfl⟩⟩
  · have g := zne h
    have hlt : (s 0 16).toInt < (σ 0 14).toInt := by omega
    refine zk_call (x_isLetter (s 0 16) t ht f16.1) (fun r u hp => ?_)
    obtain ⟨rfl, hr⟩ := hp
    rw [cL_tk kt] at hr
    refine zk_ite (fun hr0 => ?_) (fun hr0 => ?_)
    · rcases hr with ⟨-, hr⟩ | ⟨hr, -⟩
      · rw [t15]
        refine zk_call (x_isDigit (s 0 16) t ht f16.1) (fun r2 u hp => ?_)
        obtain ⟨rfl, hr2⟩ := hp
        rw [cD_tk kt] at hr2
        refine zk_ite (fun hr20 => ?_) (fun hr20 => ?_)
        · rcases hr2 with ⟨-, hr2⟩ | ⟨hr2, -⟩
          · refine zk_let (fun u q => ?_)
            have hu : IMc u := by rw [q]; exact IMc.up ht (zTs _) trivial
            have ku : tk σ u := by rw [q]; exact kt.up (by decide) (by decide)
            have u15 : u 0 15 = s 0 16 := by rw [q]; exact (zkeepf rfl).trans t15
            have u16 : u 0 16 = s 0 16 := by rw [q]; exact (zkeepf rfl).trans t16
            have u17 : u 0 17 = 3 := by rw [q]; exact zgot
            rw [u15]
            refine zk_in (zin_mk f16.1 (by omega)) ?_
            refine zk_let (fun y ey => ?_)
            rw [ku.t] at ey
            refine zk_let (fun v q => ?_)
            have hv : IMc v := by rw [q]; exact IMc.up hu (zTs _) trivial
            have kv : tk σ v := by rw [q]; exact ku.up (by decide) (by decide)
            have v15 : v 0 15 = s 0 16 := by rw [q]; exact (zkeepf rfl).trans u15
            have v16 : v 0 16 = s 0 16 := by rw [q]; exact (zkeepf rfl).trans u16
            have v17 : v 0 17 = 3 := by rw [q]; exact (zkeepf rfl).trans u17
            have v19 : v 0 19 = y := by rw [q]; exact zgot
            rw [v16]
            refine zk_let (fun w q => ?_)
            have ex := zTe (zTadd (zTs (s 0 16)) (zTl zt_1) (by omega) (by omega))
            refine zk_some ⟨by rw [q]; exact IMc.up hv (zTl ex) ⟨by omega, by omega⟩, by rw [q]; exact kv.up (by decide) (by decide), ?_⟩
            have w15 : w 0 15 = s 0 16 := by rw [q]; exact (zkeepf rfl).trans v15
            have w16 : w 0 16 = s 0 16 + 1 := by rw [q]; exact zgot
            have w17 : w 0 17 = 3 := by rw [q]; exact (zkeepf rfl).trans v17
            have w19 : w 0 19 = y := by rw [q]; exact (zkeepf rfl).trans v19
            rw [w15, w16, w17, w19]
            exact ⟨hB.1, by omega, by omega, hB.2, Or.inr (Or.inr (Or.inr ⟨ex, hr, hr2, hb.resolve_left g, rfl, ey⟩))⟩
          · exact absurd (hr2.symm.trans hr20) (by decide)
        · rcases hr2 with ⟨hr2, -⟩ | ⟨-, hr2⟩
          · exact absurd hr2 hr20
          · refine zk_let (fun u q => ?_)
            have hu : IMc u := by rw [q]; exact IMc.up ht (zTs _) trivial
            have ku : tk σ u := by rw [q]; exact kt.up (by decide) (by decide)
            have u15 : u 0 15 = s 0 16 := by rw [q]; exact (zkeepf rfl).trans t15
            have u16 : u 0 16 = s 0 16 := by rw [q]; exact (zkeepf rfl).trans t16
            have u18 : u 0 18 = 0 := by rw [q]; exact zgot
            exact nt214 y0 (s 0 16) σ u hu ku u15 u16 u18 f16.1 hB hlt hr2 hy
      · exact absurd (hr.symm.trans hr0) (by decide)
    · rcases hr with ⟨hr, -⟩ | ⟨-, hr⟩
      · exact absurd hr hr0
      · exact nt128 y0 (s 0 16) σ t ht kt t15 t16 f16.1 hB hlt hr hy
theorem nt72 (x1 : Int32) (σ s : zg_S) (hs : IMc s) (hk : tk σ s) (hB : nB σ (s 0 16)) (hn : (s 0 16).toInt ≤ (σ 0 14).toInt) (hb : (s 0 16).toInt = (σ 0 14).toInt ∨ ¬ σ 13 (s 0 16).toNatClampNeg = 32) (hy : ((0 < (σ 0 16).toInt ∧ (σ 0 17 = 1 ∨ σ 0 17 = 2)) ∧ x1 = 1) ∨ (¬ (0 < (σ 0 16).toInt ∧ (σ 0 17 = 1 ∨ σ 0 17 = 2)) ∧ x1 = 0)) : zk (B_X7_nextToken_72 x1 (σ 0 16) s) (NQ σ) := by
  unfold B_X7_nextToken_72 B_X7_nextToken_88
  refine zk_ite (fun h => ?_) (fun h => ?_)
  · rcases hy with hy | hy
    · exact absurd (hy.2.symm.trans h) (by decide)
    · exact nt89 0 σ s hs hk hB hn hb (Or.inr ⟨fun z => hy.1 ⟨z.1, z.2.1⟩, rfl⟩)
  · rcases hy with hy | hy
    · refine zk_ite (fun h2 => ?_) (fun h2 => ?_)
      · exact nt89 1 σ s hs hk hB hn hb (Or.inl ⟨⟨hy.1.1, hy.1.2, h2.symm⟩, rfl⟩)
      · exact nt89 0 σ s hs hk hB hn hb (Or.inr ⟨fun z => h2 z.2.2.symm, rfl⟩)
    · exact absurd hy.2 h
theorem nt28 (y0 : Int32) (σ : zg_S) (hσ : IMc σ) (hn : (σ 0 16).toInt ≤ (σ 0 14).toInt) (hy : ((0 < (σ 0 16).toInt ∧ (σ 0 17 = 1 ∨ σ 0 17 = 2)) ∧ y0 = 1) ∨ (¬ (0 < (σ 0 16).toInt ∧ (σ 0 17 = 1 ∨ σ 0 17 = 2)) ∧ y0 = 0)) : zk (B_X7_nextToken_28 y0 σ) (NQ σ) := by
  have e1 := zt_1
  have f14 : 0 ≤ (σ 0 14).toInt ∧ (σ 0 14).toInt ≤ 96 := hσ 0 14
  have f16 : 0 ≤ (σ 0 16).toInt ∧ (σ 0 16).toInt ≤ 96 := hσ 0 16
  unfold B_X7_nextToken_28 L_X7_nextToken_34
  refine zl_II (fun (x1 x2 : Int32) (t : zg_S) => x1 = y0 ∧ x2 = σ 0 16 ∧ IMc t ∧ tk σ t ∧ nB σ (t 0 16) ∧ (t 0 16).toInt ≤ (σ 0 14).toInt) (fun (_ _ : Int32) (t : zg_S) => (97 - (t 0 16).toInt).toNat) ?_ zfu _ _ _ ⟨rfl, rfl, hσ, tk.rf, ⟨Int.le_refl _, fun i h1 h2 => by omega⟩, hn⟩ (by unfold zfu; show (97 - (σ 0 16).toInt).toNat < 100000; omega)
  intro rec x1 x2 t hI ih
  obtain ⟨rfl, rfl, ht, kt, hB, hn2⟩ := hI
  have b0 := hB.1
  unfold B_X7_nextToken_34
  rw [kt.n]
  refine zk_ite (fun h => ?_) (fun h => ?_)
  · have g := zle h
    exact nt72 x1 σ t ht kt hB hn2 (Or.inl (by omega)) hy
  · have g := znle h
    refine zk_in (zin_mk (by omega) (by omega)) ?_
    rw [kt.t]
    refine zk_ite (fun h3 => ?_) (fun h3 => nt72 x1 σ t ht kt hB hn2 (Or.inr h3) hy)
    refine zk_let (fun u q => ?_)
    have ex := zTe (zTadd (zTs (t 0 16)) (zTl zt_1) (by omega) (by omega))
    have u16 : (u 0 16).toInt = (t 0 16).toInt + 1 := by rw [q]; exact (congrArg Int32.toInt zgot).trans ex
    have ne := ztn (i := t 0 16) (by omega)
    refine ih x1 _ u ⟨rfl, rfl, by rw [q]; exact IMc.up ht (zTl ex) ⟨by omega, by omega⟩, by rw [q]; exact kt.up (by decide) (by decide), ⟨by omega, fun i h1 h2 => ?_⟩, by omega⟩ (by show (97 - (u 0 16).toInt).toNat < (97 - (t 0 16).toInt).toNat; omega)
    by_cases c : (i : Int) < (t 0 16).toInt
    · exact hB.2 i h1 c
    · rw [show i = (t 0 16).toNatClampNeg by omega]
      exact h3
theorem s_X7_nextToken (σ : zg_S) (hσ : IMc σ) (hn : (σ 0 16).toInt ≤ (σ 0 14).toInt) : zk (f_X7_nextToken σ) (NQ σ) := by
  have e0 := zt_0
  unfold f_X7_nextToken B_X7_nextToken_27 B_X7_nextToken_23
  refine zk_ite (fun h => ?_) (fun h => ?_)
  · have g := zle h
    exact nt28 0 σ hσ hn (Or.inr ⟨fun z => by omega, rfl⟩)
  · have g := znle h
    refine zk_ite (fun h1 => ?_) (fun h1 => ?_)
    · exact nt28 1 σ hσ hn (Or.inl ⟨⟨by omega, Or.inl h1⟩, rfl⟩)
    · refine zk_ite (fun h2 => ?_) (fun h2 => ?_)
      · exact nt28 1 σ hσ hn (Or.inl ⟨⟨by omega, Or.inr h2⟩, rfl⟩)
      · exact nt28 0 σ hσ hn (Or.inr ⟨fun z => z.2.elim h1 h2, rfl⟩)
