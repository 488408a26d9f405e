theorem zl_0 {bot : zg_S → Option (Int32 × zg_S)} {F : (zg_S → Option (Int32 × zg_S)) → zg_S → Option (Int32 × zg_S)} {P : Int32 → zg_S → Prop} (I : zg_S → Prop) (μ : zg_S → Nat) (h : ∀ (rec : zg_S → Option (Int32 × zg_S))  (s : zg_S), I  s → (∀  (t : zg_S), I  t → μ  t < μ  s → zk (rec  t) P) → zk (F rec  s) P) : ∀ (n : Nat)  (s : zg_S), I  s → μ  s < n → zk (zfix bot F n  s) P := by
  intro n
  induction n with
  | zero => intro  s _ hm; omega
  | succ n ih => intro  s hI hm; exact h (zfix bot F n)  s hI (fun  t hI' hm' => ih  t hI' (by omega))
theorem zl_IIII {bot : Int32 → Int32 → Int32 → Int32 → zg_S → Option (Int32 × zg_S)} {F : (Int32 → Int32 → Int32 → Int32 → zg_S → Option (Int32 × zg_S)) → Int32 → Int32 → Int32 → Int32 → zg_S → Option (Int32 × zg_S)} {P : Int32 → zg_S → Prop} (I : Int32 → Int32 → Int32 → Int32 → zg_S → Prop) (μ : Int32 → Int32 → Int32 → Int32 → zg_S → Nat) (h : ∀ (rec : Int32 → Int32 → Int32 → Int32 → zg_S → Option (Int32 × zg_S)) (x0 : Int32) (x1 : Int32) (x2 : Int32) (x3 : Int32) (s : zg_S), I x0 x1 x2 x3 s → (∀ (y0 : Int32) (y1 : Int32) (y2 : Int32) (y3 : Int32) (t : zg_S), I y0 y1 y2 y3 t → μ y0 y1 y2 y3 t < μ x0 x1 x2 x3 s → zk (rec y0 y1 y2 y3 t) P) → zk (F rec x0 x1 x2 x3 s) P) : ∀ (n : Nat) (x0 : Int32) (x1 : Int32) (x2 : Int32) (x3 : Int32) (s : zg_S), I x0 x1 x2 x3 s → μ x0 x1 x2 x3 s < n → zk (zfix bot F n x0 x1 x2 x3 s) P := by
  intro n
  induction n with
  | zero => intro x0 x1 x2 x3 s _ hm; omega
  | succ n ih => intro x0 x1 x2 x3 s hI hm; exact h (zfix bot F n) x0 x1 x2 x3 s hI (fun y0 y1 y2 y3 t hI' hm' => ih y0 y1 y2 y3 t hI' (by omega))
theorem zl_IIIII {bot : Int32 → Int32 → Int32 → Int32 → Int32 → zg_S → Option (Int32 × zg_S)} {F : (Int32 → Int32 → Int32 → Int32 → Int32 → zg_S → Option (Int32 × zg_S)) → Int32 → Int32 → Int32 → Int32 → Int32 → zg_S → Option (Int32 × zg_S)} {P : Int32 → zg_S → Prop} (I : Int32 → Int32 → Int32 → Int32 → Int32 → zg_S → Prop) (μ : Int32 → Int32 → Int32 → Int32 → Int32 → zg_S → Nat) (h : ∀ (rec : Int32 → Int32 → Int32 → Int32 → Int32 → zg_S → Option (Int32 × zg_S)) (x0 : Int32) (x1 : Int32) (x2 : Int32) (x3 : Int32) (x4 : Int32) (s : zg_S), I x0 x1 x2 x3 x4 s → (∀ (y0 : Int32) (y1 : Int32) (y2 : Int32) (y3 : Int32) (y4 : Int32) (t : zg_S), I y0 y1 y2 y3 y4 t → μ y0 y1 y2 y3 y4 t < μ x0 x1 x2 x3 x4 s → zk (rec y0 y1 y2 y3 y4 t) P) → zk (F rec x0 x1 x2 x3 x4 s) P) : ∀ (n : Nat) (x0 : Int32) (x1 : Int32) (x2 : Int32) (x3 : Int32) (x4 : Int32) (s : zg_S), I x0 x1 x2 x3 x4 s → μ x0 x1 x2 x3 x4 s < n → zk (zfix bot F n x0 x1 x2 x3 x4 s) P := by
  intro n
  induction n with
  | zero => intro x0 x1 x2 x3 x4 s _ hm; omega
  | succ n ih => intro x0 x1 x2 x3 x4 s hI hm; exact h (zfix bot F n) x0 x1 x2 x3 x4 s hI (fun y0 y1 y2 y3 y4 t hI' hm' => ih y0 y1 y2 y3 y4 t hI' (by omega))
theorem m_isIn (a lo hi : Int32) (σ : zg_S) (hσ : IMc σ) : zk (f_X7_isIn (Int32.toInt64 a) (Int32.toInt64 lo) (Int32.toInt64 hi) σ) (fun r s => σ = s ∧ (r = 0 ∨ (r = 1 ∧ lo.toInt ≤ a.toInt ∧ a.toInt ≤ hi.toInt))) := by
  refine zk_mono (s_X7_isIn _ _ _ σ hσ) (fun r s h => ⟨h.1, ?_⟩)
  have h := h.2
  rw [zI64, zI64, zI64] at h
  exact h
/-- what is only thought: the row close holds what is to come back -/
def BY (σ s : zg_S) : Prop := IMc s ∧ (∀ k, k < 47 → s 12 k = σ 1 k) ∧ s 1 1 = σ 1 1 ∧ (∀ k, 47 ≤ k → s 1 k = σ 1 k) ∧ s 2 = σ 2 ∧ s 0 3 = σ 0 3
theorem BY.go {σ s t : zg_S} (b : BY σ s) (ht : IMc t) (h : hi s t) : BY σ t := ⟨ht, fun k hk => by rw [h.2.2.2.2.1]; exact b.2.1 k hk, h.1.trans b.2.2.1, fun k hk => (h.2.1 k hk).trans (b.2.2.2.1 k hk), h.2.2.1.trans b.2.2.2.2.1, h.2.2.2.2.2.trans b.2.2.2.2.2⟩
theorem BY.wf {σ s : zg_S} (b : BY σ s) (h : WF (σ 1)) : WF (s 1) := WF_eq b.2.2.1 b.2.2.2.1 h
theorem BY.done {σ s : zg_S} (h : IM σ) (b : BY σ s) (e : s 1 = σ 1) : IM s := ⟨b.1, by rw [e]; exact h.2.1, fun hn => by rw [b.2.2.2.2.1]; exact h.2.2 (by rw [← b.2.2.2.2.2]; exact hn)⟩
theorem m_by (σ : zg_S) (h : IMc σ) : zk (f_X7_laysBy σ) (fun _ s => BY σ s ∧ s 1 = σ 1) :=
  zk_mono (s_X7_laysBy σ h) (fun _ s hp => ⟨⟨hp.1, hp.2.1, congrFun (hp.2.2 1 (by decide)) 1, fun k _ => congrFun (hp.2.2 1 (by decide)) k, hp.2.2 2 (by decide), congrFun (hp.2.2 0 (by decide)) 3⟩, hp.2.2 1 (by decide)⟩)
theorem m_bk (σ s : zg_S) (b : BY σ s) : zk (f_X7_laysBack s) (fun _ t => BY σ t ∧ t 1 = σ 1) := by
  refine zk_mono (s_X7_laysBack s b.1) (fun _ t hp => ?_)
  obtain ⟨ht, h1, h2, h3⟩ := hp
  have e : t 1 = σ 1 := funext (fun k => by
    by_cases hk : k < 47
    · exact (h1 k hk).trans (b.2.1 k hk)
    · exact (h2 k (by omega)).trans (b.2.2.2.1 k (by omega)))
  exact ⟨⟨ht, fun k hk => by rw [h3 12 (by decide)]; exact b.2.1 k hk, congrFun e 1, fun k _ => congrFun e k, (h3 2 (by decide)).trans b.2.2.2.2.1, (congrFun (h3 0 (by decide)) 3).trans b.2.2.2.2.2⟩, e⟩
theorem m_many (a : Int32) (σ s : zg_S) (h : IM σ) (b : BY σ s) (ha : a.toInt ≤ 100) : zk (f_X7_goesOnMany a s) (fun _ t => BY σ t) :=
  zk_mono (s_X7_goesOnMany a s b.1 (b.wf h.2.1) ha) (fun _ t hp => b.go hp.1 hp.2)
theorem m_goBy (a : Int32) (σ s : zg_S) (h : IM σ) (b : BY σ s) : zk (f_X7_goesOnBy a s) (fun _ t => BY σ t) :=
  zk_mono (s_X7_goesOnBy a s b.1 (b.wf h.2.1)) (fun _ t hp => b.go hp.1 hp.2)
theorem BY.up {σ s : zg_S} {i : Nat} {v : Int32} (b : BY σ s) (h2 : 2 ≤ i) (h3 : i < 47) : BY σ (zg_up s 1 i v) := b.go (IMc.up b.1 (zTs v) (mcon1 h2)) (hi.up1 hi.rf h2 h3)
theorem m_behind (a1 a2 : Int32) (σ : zg_S) (h : IM σ) : zk (f_X7_behind a1 a2 σ) (fun _ s => IM s) := by
  have e100 := zt_100
  unfold f_X7_behind
  refine zk_call (m_isIn a1 0 100 σ h.1) (fun r s hp => ?_)
  obtain ⟨rfl, hr⟩ := hp
  refine zk_ite (fun _ => zk_some h) (fun hn => ?_)
  obtain ⟨-, -, h2⟩ := hr.resolve_left hn
  refine zk_call (m_isIn a2 0 3 σ h.1) (fun r2 s2 hp => ?_)
  obtain ⟨rfl, hr2⟩ := hp
  refine zk_ite (fun _ => zk_some h) (fun _ => ?_)
  refine zk_call (m_by σ h.1) (fun _ s3 hp => ?_)
  refine zk_call (m_many a1 σ s3 h hp.1 (by omega)) (fun _ s4 b4 => ?_)
  have e : ∀ y, zk (B_X7_behind_84 a1 a2 y s4) (fun _ s => IM s) := fun y => by
    unfold B_X7_behind_84
    exact zk_call (m_bk σ s4 b4) (fun _ s5 hp => zk_some (BY.done h hp.1 hp.2))
  exact zk_ite (fun _ => e _) (fun _ => zk_ite (fun _ => e _) (fun _ => zk_ite (fun _ => e _) (fun _ => e _)))
theorem m_goods (a1 a2 : Int32) (σ : zg_S) (h : IM σ) : zk (f_X7_goods a1 a2 σ) (fun _ s => IM s) := by
  have e100 := zt_100
  have e0 := zt_0
  have e2 := zt_2
  have f0 : 0 ≤ (σ 1 0).toInt ∧ (σ 1 0).toInt ≤ 9 := h.1 1 0
  unfold f_X7_goods
  refine zk_call (s_X7_isStall a1 σ h.1) (fun r s hp => ?_)
  obtain ⟨rfl, hr⟩ := hp
  refine zk_ite (fun _ => zk_some h) (fun hn => ?_)
  obtain ⟨-, g1, g2⟩ := hr.resolve_left hn
  refine zk_call (m_isIn a2 0 100 σ h.1) (fun r s hp => ?_)
  obtain ⟨rfl, hr⟩ := hp
  refine zk_ite (fun _ => zk_some h) (fun hn => ?_)
  obtain ⟨-, -, h2⟩ := hr.resolve_left hn
  refine zk_call (m_by σ h.1) (fun _ s3 hp => ?_)
  refine zk_call (m_many a2 σ s3 h hp.1 (by omega)) (fun _ s4 b4 => ?_)
  refine zk_call (s_X7_of a1 2 s4 b4.1 g1 (by omega) (by omega) (by omega)) (fun _ s5 hp => ?_)
  subst hp
  exact zk_call (m_bk σ s4 b4) (fun _ s5 hp => zk_some (BY.done h hp.1 hp.2))
theorem m_wider (a1 a2 : Int32) (σ : zg_S) (h : IM σ) : zk (f_X7_wider a1 a2 σ) (fun _ s => IM s) := by
  have e60 := zt_60
  have e1 := zt_1
  have em := zt_m1
  have e6 := zt_6
  unfold f_X7_wider
  refine zk_call (m_isIn a1 0 9999 σ h.1) (fun r s hp => ?_)
  obtain ⟨rfl, hr⟩ := hp
  refine zk_ite (fun _ => zk_some h) (fun hn => ?_)
  refine zk_call (m_isIn a2 1 60 σ h.1) (fun r s hp => ?_)
  obtain ⟨rfl, hr2⟩ := hp
  refine zk_ite (fun _ => zk_some h) (fun hn => ?_)
  obtain ⟨-, -, h2⟩ := hr2.resolve_left hn
  refine zk_call (m_by σ h.1) (fun _ s3 hp => ?_)
  unfold L_X7_wider_37
  refine zl_II (fun (_ x4 : Int32) (s : zg_S) => BY σ s ∧ s 1 = σ 1 ∧ 0 ≤ x4.toInt ∧ x4.toInt ≤ 6) (fun (_ x4 : Int32) (_ : zg_S) => x4.toInt.toNat) ?_ zfu _ _ _ ⟨hp.1, hp.2, by omega, by omega⟩ (by unfold zfu; omega)
  intro rec x3 x4 s hI ih
  obtain ⟨b, e, i1, i2⟩ := hI
  unfold B_X7_wider_37
  refine zk_ite (fun _ => ?_) (fun hl => ?_)
  · refine zk_call (s_X7_orNone x3 s b.1) (fun _ t hp => ?_)
    subst hp
    exact zk_some (BY.done h b e)
  · have g := znlt hl
    refine zk_let (fun t q => ?_)
    have bt : BY σ t := by rw [q]; exact b.up (by decide) (by decide)
    refine zk_call (s_X7_holds t bt.1) (fun _ t2 hp => ?_)
    refine zk_call (m_many a2 σ t2 h (bt.go hp.1 hp.2) (by omega)) (fun _ t3 b3 => ?_)
    have ex := zTe (zTadd (zTs x4) (zTl zt_m1) (by omega) (by omega))
    have ee : ∀ y, zk (B_X7_wider_77 a1 a2 rec x4 y t3) (fun _ s => IM s) := fun y => by
      unfold B_X7_wider_77
      refine zk_call (m_bk σ t3 b3) (fun _ s5 hp => ?_)
      exact ih y (x4 + (-1)) s5 ⟨hp.1, hp.2, by rw [ex]; omega, by rw [ex]; omega⟩ (by show (x4 + (-1)).toInt.toNat < x4.toInt.toNat; rw [ex]; omega)
    exact zk_ite (fun _ => ee _) (fun _ => ee _)
theorem m_shaded (a1 a2 : Int32) (σ : zg_S) (h : IM σ) : zk (f_X7_shaded a1 a2 σ) (fun _ s => IM s) := by
  have e60 := zt_60
  have e1 := zt_1
  have e0 := zt_0
  have f0 : 0 ≤ (σ 1 0).toInt ∧ (σ 1 0).toInt ≤ 9 := h.1 1 0
  unfold f_X7_shaded
  refine zk_call (s_X7_isStall a1 σ h.1) (fun r s hp => ?_)
  obtain ⟨rfl, hr⟩ := hp
  refine zk_ite (fun _ => zk_some h) (fun hn => ?_)
  obtain ⟨-, g1, g2⟩ := hr.resolve_left hn
  refine zk_call (m_isIn a2 1 60 σ h.1) (fun r s hp => ?_)
  obtain ⟨rfl, hr2⟩ := hp
  refine zk_ite (fun _ => zk_some h) (fun hn => ?_)
  obtain ⟨-, -, h2⟩ := hr2.resolve_left hn
  refine zk_call (m_by σ h.1) (fun _ s3 hp => ?_)
  unfold L_X7_shaded_32
  refine zl_II (fun (_ x4 : Int32) (s : zg_S) => BY σ s ∧ 0 ≤ x4.toInt ∧ x4.toInt ≤ 60) (fun (_ x4 : Int32) (_ : zg_S) => (60 - x4.toInt).toNat) ?_ zfu _ _ _ ⟨hp.1, by omega, by omega⟩ (by unfold zfu; omega)
  intro rec x3 x4 s hI ih
  obtain ⟨b, i1, i2⟩ := hI
  unfold B_X7_shaded_32
  refine zk_ite (fun _ => zk_call (m_bk σ s b) (fun _ s5 hp => zk_some (BY.done h hp.1 hp.2))) (fun hl => ?_)
  have g := znle hl
  refine zk_call (s_X7_hauls s b.1 (b.wf h.2.1)) (fun r30 t hp => ?_)
  have b1 := b.go hp.1 hp.2
  refine zk_let (fun t2 q2 => ?_)
  have b2 : BY σ t2 := by rw [q2]; exact b1.up (by decide) (by decide)
  refine zk_call (s_X7_holds t2 b2.1) (fun _ t3 hp => ?_)
  have b3 := b2.go hp.1 hp.2
  refine zk_call (s_X7_isShaded a1 t3 b3.1 g1 (by omega)) (fun _ t4 hp => ?_)
  obtain ⟨rfl, _⟩ := hp
  have ex := zTe (zTadd (zTs x4) (zTl zt_1) (by omega) (by omega))
  have ee : ∀ y, zk (B_X7_shaded_83 a1 a2 rec x4 (s 1 7) r30 y x3 t3) (fun _ s => IM s) := fun y => by
    unfold B_X7_shaded_83
    refine zk_let (fun t5 q5 => ?_)
    have b5 : BY σ t5 := by rw [q5]; exact b3.up (by decide) (by decide)
    refine zk_call (m_goBy r30 σ t5 h b5) (fun _ t6 b6 => ?_)
    exact ih _ (x4 + 1) t6 ⟨b6, by rw [ex]; omega, by rw [ex]; omega⟩ (by show (60 - (x4 + 1).toInt).toNat < (60 - x4.toInt).toNat; rw [ex]; omega)
  exact zk_ite (fun _ => ee _) (fun _ => ee _)
theorem m_without (a1 a2 : Int32) (σ : zg_S) (h : IM σ) : zk (f_X7_without a1 a2 σ) (fun _ s => IM s) := by
  have e60 := zt_60
  have e1 := zt_1
  have e0 := zt_0
  have e3 := zt_3
  have f0 : 0 ≤ (σ 1 0).toInt ∧ (σ 1 0).toInt ≤ 9 := h.1 1 0
  unfold f_X7_without
  refine zk_call (m_isIn a1 1 60 σ h.1) (fun r s hp => ?_)
  obtain ⟨rfl, hr2⟩ := hp
  refine zk_ite (fun _ => zk_some h) (fun hn => ?_)
  obtain ⟨-, -, h2⟩ := hr2.resolve_left hn
  refine zk_call (m_isIn a2 0 1 σ h.1) (fun r s hp => ?_)
  obtain ⟨rfl, hr⟩ := hp
  refine zk_ite (fun _ => zk_some h) (fun hn => ?_)
  refine zk_call (m_by σ h.1) (fun _ s3 hp => ?_)
  unfold L_X7_without_37
  refine zl_III (fun (_ _ x5 : Int32) (s : zg_S) => BY σ s ∧ s 1 = σ 1 ∧ 0 ≤ x5.toInt ∧ x5.toInt ≤ 9) (fun (_ _ x5 : Int32) (_ : zg_S) => (9 - x5.toInt).toNat) ?_ zfu _ _ _ _ ⟨hp.1, hp.2, by omega, by omega⟩ (by unfold zfu; omega)
  intro rec x3 x4 x5 s hI ih
  obtain ⟨b, e, i1, i2⟩ := hI
  unfold B_X7_without_37
  rw [e]
  have hd := BY.done h b e
  refine zk_ite (fun _ => zk_ite (fun _ => zk_ite (fun _ => zk_some hd) (fun _ => zk_some hd)) (fun _ => zk_some hd)) (fun hl => ?_)
  have g := znle hl
  refine zk_call (s_X7_sets x5 3 0 s b.1 i1 (by omega) (by omega) (by omega)) (fun _ t hp => ?_)
  refine zk_call (m_many a1 σ t h (b.go hp.1 hp.2) (by omega)) (fun _ t2 b2 => ?_)
  refine zk_call (m_bk σ t2 b2) (fun _ t3 hp => ?_)
  have ex := zTe (zTadd (zTs x5) (zTl zt_1) (by omega) (by omega))
  have ee : ∀ y z, zk (B_X7_without_91 a1 a2 rec y z x5 t3) (fun _ s => IM s) := fun y z => by
    unfold B_X7_without_91
    exact ih _ _ (x5 + 1) t3 ⟨hp.1, hp.2, by rw [ex]; omega, by rw [ex]; omega⟩ (by show (9 - (x5 + 1).toInt).toNat < (9 - x5.toInt).toNat; rw [ex]; omega)
  exact zk_ite (fun _ => ee _ _) (fun _ => zk_ite (fun _ => ee _ _) (fun _ => ee _ _))
theorem m_whose (a1 a2 a3 : Int32) (σ : zg_S) (h : IM σ) : zk (f_X7_whose a1 a2 a3 σ) (fun _ s => IM s) := by
  have e60 := zt_60
  have e1 := zt_1
  have e0 := zt_0
  have e2 := zt_2
  have e3 := zt_3
  have e24 := zt_24
  unfold f_X7_whose
  refine zk_call (s_X7_isSheet a1 σ h.1) (fun r s hp => ?_)
  obtain ⟨rfl, hr⟩ := hp
  refine zk_ite (fun _ => zk_some h) (fun hn => ?_)
  obtain ⟨-, g1, g2⟩ := hr.resolve_left hn
  refine zk_call (m_isIn a2 0 60 σ h.1) (fun r s hp => ?_)
  obtain ⟨rfl, hr2⟩ := hp
  refine zk_ite (fun _ => zk_some h) (fun hn => ?_)
  obtain ⟨-, -, h2⟩ := hr2.resolve_left hn
  refine zk_call (m_isIn a3 0 1 σ h.1) (fun r s hp => ?_)
  obtain ⟨rfl, hr3⟩ := hp
  refine zk_ite (fun _ => zk_some h) (fun hn => ?_)
  have z1 : zin a1 4 = true := zin_mk g1 (by omega)
  refine zk_in z1 ?_
  refine zk_ite (fun _ => ?_) (fun _ => zk_some h)
  refine zk_call (m_by σ h.1) (fun _ s3 hp => ?_)
  unfold L_X7_whose_58
  refine zl_III (fun (_ _ x6 : Int32) (s : zg_S) => BY σ s ∧ s 1 = σ 1 ∧ 0 ≤ x6.toInt ∧ x6.toInt ≤ 3) (fun (_ _ x6 : Int32) (_ : zg_S) => (3 - x6.toInt).toNat) ?_ zfu _ _ _ _ ⟨hp.1, hp.2, by omega, by omega⟩ (by unfold zfu; omega)
  intro rec x4 x5 x6 s hI ih
  obtain ⟨b, e, i1, i2⟩ := hI
  unfold B_X7_whose_58
  have hd := BY.done h b e
  refine zk_ite (fun _ => zk_ite (fun _ => zk_some hd) (fun _ => zk_some hd)) (fun hl => ?_)
  have g := znle hl
  have ex := zTe (zTadd (zTs x6) (zTl zt_1) (by omega) (by omega))
  refine zk_let (fun t q => ?_)
  have bt : BY σ t := by rw [q]; exact b.up (by decide) (by decide)
  refine zk_call (m_many a2 σ t h bt (by omega)) (fun _ t2 b2 => ?_)
  unfold L_X7_whose_84
  refine zl_IIIII (fun (_ _ y6 _ x8 : Int32) (s : zg_S) => BY σ s ∧ y6 = x6 ∧ 0 ≤ x8.toInt ∧ x8.toInt ≤ 24) (fun (_ _ _ _ x8 : Int32) (_ : zg_S) => (24 - x8.toInt).toNat) ?_ zfu _ _ _ _ _ _ ⟨b2, rfl, by omega, by omega⟩ (by unfold zfu; omega)
  intro rec2 y4 y5 y6 x7 x8 u hI ih2
  obtain ⟨bu, rfl, j1, j2⟩ := hI
  have f5 : 0 ≤ (u 5 (Int32.toNatClampNeg a1)).toInt ∧ (u 5 (Int32.toNatClampNeg a1)).toInt ≤ 24 := bu.1 5 _
  have f0 : 0 ≤ (u 1 0).toInt ∧ (u 1 0).toInt ≤ 9 := bu.1 1 0
  unfold B_X7_whose_84
  refine zk_in z1 ?_
  refine zk_ite (fun _ => ?_) (fun h8 => ?_)
  · refine zk_call (m_bk σ u bu) (fun _ t3 hp => ?_)
    have ee : ∀ y z, zk (B_X7_whose_182 a1 a2 a3 rec y z y6 t3) (fun _ s => IM s) := fun y z => by
      unfold B_X7_whose_182
      exact ih _ _ (y6 + 1) t3 ⟨hp.1, hp.2, by rw [ex]; omega, by rw [ex]; omega⟩ (by show (3 - (y6 + 1).toInt).toNat < (3 - y6.toInt).toNat; rw [ex]; omega)
    exact zk_ite (fun _ => ee _ _) (fun _ => zk_ite (fun _ => ee _ _) (fun _ => ee _ _))
  · have g8 := znle h8
    refine zk_in (zin_mkT (zTadd (zTmul (zTl zt_24) (zTs a1) (by omega) (by omega)) (zTs x8) (by omega) (by omega)) (by omega) (by omega)) ?_
    refine zk_let (fun v _ => ?_)
    have ex8 := zTe (zTadd (zTs x8) (zTl zt_1) (by omega) (by omega))
    have e9 : ∀ y z, zk (B_X7_whose_149 a1 a2 a3 rec2 y4 y5 y6 x8 y z u) (fun _ s => IM s) := fun y z => by
      unfold B_X7_whose_149
      exact ih2 _ _ y6 _ (x8 + 1) u ⟨bu, rfl, by rw [ex8]; omega, by rw [ex8]; omega⟩ (by show (24 - (x8 + 1).toInt).toNat < (24 - x8.toInt).toNat; rw [ex8]; omega)
    have e6 : ∀ y z w, zk (B_X7_whose_146 a1 a2 a3 rec2 y4 y5 y6 x8 y z w u) (fun _ s => IM s) := fun y z w => by
      unfold B_X7_whose_146
      refine zk_call (s_X7_off z y u bu.1) (fun _ t hp => ?_)
      subst hp
      exact e9 _ _
    refine zk_ite (fun _ => e9 _ _) (fun _ => zk_ite (fun _ => e6 _ _ _) (fun hk => ?_))
    have gk := znle hk
    refine zk_call (s_X7_of x8 2 u bu.1 j1 (by omega) (by omega) (by omega)) (fun _ t hp => ?_)
    subst hp
    exact e6 _ _ _
/-- 3 to the power of the count of digits, less one -/
def hgh (x4 x3 : Int32) : Prop := (x4 = 1 ∧ x3 = 1) ∨ (x4 = 2 ∧ x3 = 3) ∨ (x4 = 3 ∧ x3 = 9) ∨ (x4 = 4 ∧ x3 = 27) ∨ (x4 = 5 ∧ x3 = 81)
theorem hgh.lo {x4 x3 : Int32} (h : hgh x4 x3) : 1 ≤ x3.toInt ∧ x3.toInt ≤ 81 ∧ 1 ≤ x4.toInt ∧ x4.toInt ≤ 5 := by
  rcases h with ⟨rfl, rfl⟩ | ⟨rfl, rfl⟩ | ⟨rfl, rfl⟩ | ⟨rfl, rfl⟩ | ⟨rfl, rfl⟩ <;> decide
theorem hgh.go {x4 x3 : Int32} (h : hgh x4 x3) (h4 : x4.toInt < 5) : hgh (x4 + 1) (x3 * 3) := by
  rcases h with ⟨rfl, rfl⟩ | ⟨rfl, rfl⟩ | ⟨rfl, rfl⟩ | ⟨rfl, rfl⟩ | ⟨rfl, rfl⟩
  · exact Or.inr (Or.inl ⟨by decide, by decide⟩)
  · exact Or.inr (Or.inr (Or.inl ⟨by decide, by decide⟩))
  · exact Or.inr (Or.inr (Or.inr (Or.inl ⟨by decide, by decide⟩)))
  · exact Or.inr (Or.inr (Or.inr (Or.inr ⟨by decide, by decide⟩)))
  · exact absurd h4 (by decide)
theorem zdiv3 (x : Int32) (h : 0 < x.toInt) : (x / 3).toInt < x.toInt := by
  have e3 : (3 : Int32).toInt = 3 := by decide
  rw [Int32.toInt_div, e3]
  have hb : x.toInt < 2147483648 := Int32.toInt_lt x
  have e : x.toInt.tdiv 3 = x.toInt / 3 := Int.tdiv_eq_ediv_of_nonneg (by omega)
  rw [e, Int.bmod_eq_of_le (by omega) (by omega)]
  omega
theorem m_best (a1 a2 : Int32) (σ : zg_S) (h : IM σ) : zk (f_X7_best a1 a2 σ) (fun _ s => IM s) := by
  have e5 := zt_5
  have e1 := zt_1
  have e0 := zt_0
  have e3 := zt_3
  unfold f_X7_best
  refine zk_call (m_isIn a1 1 5 σ h.1) (fun r s hp => ?_)
  obtain ⟨rfl, hr⟩ := hp
  refine zk_ite (fun _ => zk_some h) (fun hn => ?_)
  obtain ⟨-, g1, g2⟩ := hr.resolve_left hn
  refine zk_call (m_isIn a2 0 1 σ h.1) (fun r s hp => ?_)
  obtain ⟨rfl, hr2⟩ := hp
  refine zk_ite (fun _ => zk_some h) (fun hn => ?_)
  unfold L_X7_best_30
  refine zl_II (fun (x3 x4 : Int32) (s : zg_S) => s = σ ∧ hgh x4 x3) (fun (_ x4 : Int32) (_ : zg_S) => (5 - x4.toInt).toNat) ?_ zfu _ _ _ ⟨rfl, Or.inl ⟨rfl, rfl⟩⟩ (by unfold zfu; omega)
  intro rec x3 x4 s hI ih
  obtain ⟨rfl, hg⟩ := hI
  obtain ⟨q1, q2, q3, q4⟩ := hg.lo
  unfold B_X7_best_30
  refine zk_ite (fun _ => ?_) (fun hl => ?_)
  · refine zk_call (m_by s h.1) (fun _ s3 hp => ?_)
    unfold L_X7_best_59
    have e3x := zTe (zTmul (zTl zt_3) (zTs x3) (by omega) (by omega))
    refine zl_IIII (fun (y3 _ _ x6 : Int32) (t : zg_S) => BY s t ∧ t 1 = s 1 ∧ y3 = x3 ∧ 0 ≤ x6.toInt ∧ x6.toInt ≤ 243) (fun (_ _ _ x6 : Int32) (_ : zg_S) => (243 - x6.toInt).toNat) ?_ zfu _ _ _ _ _ ⟨hp.1, hp.2, rfl, by omega, by omega⟩ (by unfold zfu; omega)
    intro rec2 y3 y4 y5 x6 t hI ih2
    obtain ⟨b, e, rfl, i1, i2⟩ := hI
    unfold B_X7_best_59
    have hd := BY.done h b e
    refine zk_ite (fun _ => zk_ite (fun _ => zk_some hd) (fun _ => zk_some hd)) (fun hl => ?_)
    have g := znle hl
    have ex := zTe (zTadd (zTs x6) (zTl zt_1) (by omega) (by omega))
    unfold L_X7_best_70
    refine zl_IIIII (fun (w3 _ _ w6 x7 : Int32) (t : zg_S) => BY s t ∧ w3 = y3 ∧ w6 = x6 ∧ x7.toInt ≤ 81) (fun (_ _ _ _ x7 : Int32) (_ : zg_S) => x7.toInt.toNat) ?_ zfu _ _ _ _ _ _ ⟨b, rfl, rfl, q2⟩ (by unfold zfu; omega)
    intro rec3 w3 w4 w5 w6 x7 u hI ih3
    obtain ⟨bu, rfl, rfl, j2⟩ := hI
    unfold B_X7_best_70
    refine zk_ite (fun _ => ?_) (fun h7 => ?_)
    · refine zk_call (m_bk s u bu) (fun _ t3 hp => ?_)
      have ee : ∀ y z, zk (B_X7_best_149 a1 a2 rec2 w3 y z w6 t3) (fun _ s => IM s) := fun y z => by
        unfold B_X7_best_149
        exact ih2 _ _ _ (w6 + 1) t3 ⟨hp.1, hp.2, rfl, by rw [ex]; omega, by rw [ex]; omega⟩ (by show (243 - (w6 + 1).toInt).toNat < (243 - w6.toInt).toNat; rw [ex]; omega)
      have e1 : ∀ z, zk (B_X7_best_141 a1 a2 rec2 w3 w6 z t3) (fun _ s => IM s) := fun z => by
        unfold B_X7_best_141
        exact ee _ _
      exact zk_ite (fun _ => e1 _) (fun _ => zk_ite (fun _ => ee _ _) (fun _ => e1 _))
    · have g7 := znle h7
      have hd3 := zdiv3 x7 (by omega)
      refine zk_nz (fun z => by have := zeq z; omega) ?_
      refine zk_let (fun y _ => ?_)
      have ee : ∀ z, zk (B_X7_best_105 a1 a2 rec3 w3 w4 w5 w6 x7 z u) (fun _ s => IM s) := fun z => by
        unfold B_X7_best_105
        refine zk_call (m_goBy z s u h bu) (fun _ t6 b6 => ?_)
        exact ih3 _ _ _ _ (x7 / 3) t6 ⟨b6, rfl, rfl, by omega⟩ (by show (x7 / 3).toInt.toNat < x7.toInt.toNat; omega)
      exact zk_ite (fun _ => ee _) (fun _ => zk_ite (fun _ => ee _) (fun _ => ee _))
  · have g := znle hl
    have ex := zTe (zTadd (zTs x4) (zTl zt_1) (by omega) (by omega))
    exact ih (x3 * 3) (x4 + 1) s ⟨rfl, hg.go (by omega)⟩ (by show (5 - (x4 + 1).toInt).toNat < (5 - x4.toInt).toNat; rw [ex]; omega)
theorem m_check (a1 : Int32) (σ : zg_S) (h : IM σ) : zk (f_X7_check a1 σ) (fun _ s => IM s) := by
  have e30 := zt_30
  have e1 := zt_1
  have e0 := zt_0
  have e2 := zt_2
  have f29 : 0 ≤ (σ 0 29).toInt ∧ (σ 0 29).toInt ≤ 60 := h.1 0 29
  unfold f_X7_check
  refine zk_let (fun s0 q0 => ?_)
  have h0 : IM s0 := by rw [q0]; exact h.hi (IMc.up h.1 (zTl zt_0) ⟨by omega, by omega⟩) (hi.up0 hi.rf rfl)
  refine zk_call (m_isIn a1 1 30 s0 h0.1) (fun r s hp => ?_)
  obtain ⟨rfl, hr⟩ := hp
  refine zk_ite (fun _ => zk_some h0) (fun hn => ?_)
  obtain ⟨-, g1, g2⟩ := hr.resolve_left hn
  refine zk_ite (fun _ => zk_some h0) (fun hi3 => ?_)
  have w2 := h0.2.2 hi3
  refine zk_call (s_X7_setAside 1 3 s0 h0.1 (by decide) (by decide) (by decide) mc_1_3) (fun _ s1 hp => ?_)
  obtain ⟨h1, a1a, a1b, a1c⟩ := hp
  refine zk_call (s_X7_setAside 2 1 s1 h1 (by decide) (by decide) (by decide) mc_2_1) (fun _ s2 hp => ?_)
  obtain ⟨h2, a2a, a2b, a2c⟩ := hp
  have r12 : s1 2 = s0 2 := a1c 2 (by decide)
  have w21 : WF (s2 1) := WF_eq2 (h0.1 2 1).2 (fun i hi => (a2a i hi).trans (congrFun r12 i)) w2
  have k3 : ∀ k, k < 2847 → s2 3 k = s0 1 k := fun k hk => (congrFun (a2c 3 (by decide)) k).trans (a1a k hk)
  have k2 : s2 2 = s0 2 := (a2c 2 (by decide)).trans r12
  have k0 : s2 0 = s0 0 := (a2c 0 (by decide)).trans (a1c 0 (by decide))
  unfold L_X7_check_65
  refine zl_III (fun (x2 x3 x4 : Int32) (s : zg_S) => IMc s ∧ hi s2 s ∧ x2 = σ 0 29 ∧ x3.toInt = 2 * x4.toInt ∧ 0 ≤ x4.toInt ∧ x4.toInt ≤ 30) (fun (_ _ x4 : Int32) (_ : zg_S) => (30 - x4.toInt).toNat) ?_ zfu _ _ _ _ ⟨h2, hi.rf, rfl, by omega, by omega, by omega⟩ (by unfold zfu; omega)
  intro rec x2 x3 x4 s hI ih
  obtain ⟨hs, hh, rfl, i0, i1, i2⟩ := hI
  unfold B_X7_check_65
  have ee : zk (B_X7_check_123 a1 (σ 0 29) x3 s) (fun _ s => IM s) := by
    unfold B_X7_check_123
    refine zk_call (s_X7_setAside 3 1 s hs (by decide) (by decide) (by decide) mc_3_1) (fun _ t hp => ?_)
    obtain ⟨ht, b1, b2, b3⟩ := hp
    have hM : IM t := by
      refine ⟨ht, WF_eq2 (h0.1 1 1).2 (fun i hi => (b1 i hi).trans ((congrFun hh.2.2.2.1 i).trans (k3 i hi))) h0.2.1, fun _ => ?_⟩
      rw [b3 2 (by decide), hh.2.2.1, k2]
      exact w2
    unfold L_X7_check_138
    refine zl_III (fun (y2 _ x4 : Int32) (u : zg_S) => u = t ∧ y2 = σ 0 29 ∧ 0 ≤ x4.toInt ∧ x4.toInt ≤ 60) (fun (_ _ x4 : Int32) (_ : zg_S) => (60 - x4.toInt).toNat) ?_ zfu _ _ _ _ ⟨rfl, rfl, by omega, by omega⟩ (by unfold zfu; omega)
    intro rec2 y2 y3 y4 u hI ih2
    obtain ⟨rfl, rfl, j1, j2⟩ := hI
    have e7 : zk (B_X7_check_173 a1 (σ 0 29) y3 y4 u) (fun _ s => IM s) := by
      unfold B_X7_check_173 B_X7_check_189
      exact zk_ite (fun _ => zk_ite (fun _ => zk_some hM) (fun _ => zk_some hM)) (fun _ => zk_some hM)
    unfold B_X7_check_138
    refine zk_ite (fun _ => e7) (fun hl => ?_)
    have g := znle hl
    refine zk_ite (fun _ => e7) (fun _ => ?_)
    refine zk_in (zin_mk j1 (by omega)) ?_
    refine zk_ite (fun _ => ?_) (fun _ => e7)
    have ex := zTe (zTadd (zTs y4) (zTl zt_1) (by omega) (by omega))
    exact ih2 _ _ (y4 + 1) u ⟨rfl, rfl, by rw [ex]; omega, by rw [ex]; omega⟩ (by show (60 - (y4 + 1).toInt).toNat < (60 - y4.toInt).toNat; rw [ex]; omega)
  refine zk_ite (fun _ => ee) (fun hl => zk_ite (fun _ => ee) (fun _ => ?_))
  have g := znle hl
  refine zk_call (s_X7_goesOn s hs (w21.hi hh)) (fun _ t hp => ?_)
  have e3 := zTe (zTadd (zTs x3) (zTl zt_1) (by omega) (by omega))
  have e3' := zTe (zTadd (zTs x3) (zTl zt_2) (by omega) (by omega))
  have ex := zTe (zTadd (zTs x4) (zTl zt_1) (by omega) (by omega))
  refine zk_in (zin_mk (by omega) (by omega)) ?_
  refine zk_let (fun t2 q2 => ?_)
  have p2 : IMc t2 := by rw [q2]; exact IMc.up hp.1 (zTs _) trivial
  have hh2 : hi s2 t2 := by rw [q2]; exact hi.upo (hh.tr hp.2) rfl
  refine zk_in (zin_mk (by rw [e3]; omega) (by rw [e3]; omega)) ?_
  refine zk_let (fun t3 q3 => ?_)
  have p3 : IMc t3 := by rw [q3]; exact IMc.up p2 (zTs _) trivial
  have hh3 : hi s2 t3 := by rw [q3]; exact hi.upo hh2 rfl
  exact ih _ (x3 + 2) (x4 + 1) t3 ⟨p3, hh3, rfl, by rw [e3', ex]; omega, by rw [ex]; omega, by rw [ex]; omega⟩ (by show (30 - (x4 + 1).toInt).toNat < (30 - x4.toInt).toNat; rw [ex]; omega)
