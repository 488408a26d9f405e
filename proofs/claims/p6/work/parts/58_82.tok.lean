/-! TEXT: the next word or sign among n bytes T, from e on -/
def qL (n : Int) (T : Nat → Int32) (i : Nat) : Prop := (i : Int) < n ∧ 97 ≤ (T i).toInt ∧ (T i).toInt ≤ 122
def qD (n : Int) (T : Nat → Int32) (i : Nat) : Prop := (i : Int) < n ∧ 48 ≤ (T i).toInt ∧ (T i).toInt ≤ 57
def tq (n : Int) (T : Nat → Int32) (e : Int) (g : Prop) (B E K : Int32) : Prop := e ≤ B.toInt ∧ B.toInt ≤ E.toInt ∧ E.toInt ≤ n ∧ (∀ i : Nat, e ≤ i → (i : Int) < B.toInt → T i = 32) ∧
  ((B.toInt = n ∧ K = 0 ∧ E = B) ∨
   (B.toInt < E.toInt ∧ (∀ i : Nat, B.toInt ≤ i → (i : Int) < E.toInt → qL n T i) ∧ ¬ qL n T E.toNatClampNeg ∧ (((g ∧ B.toInt = e) ∧ K = 4) ∨ (¬ (g ∧ B.toInt = e) ∧ K = 1))) ∨
   (B.toInt < E.toInt ∧ (∀ i : Nat, B.toInt ≤ i → (i : Int) < E.toInt → qD n T i) ∧ ¬ qD n T E.toNatClampNeg ∧ ((((g ∧ B.toInt = e) ∨ 4 < E.toInt - B.toInt) ∧ K = 4) ∨ (¬ ((g ∧ B.toInt = e) ∨ 4 < E.toInt - B.toInt) ∧ K = 2))) ∨
   (E.toInt = B.toInt + 1 ∧ ¬ qL n T B.toNatClampNeg ∧ ¬ qD n T B.toNatClampNeg ∧ ¬ T B.toNatClampNeg = 32 ∧ K = 3))
theorem qLD {n : Int} {T : Nat → Int32} {i : Nat} (h : qL n T i) (h' : qD n T i) : False := by
  have a := h.2.1
  have b := h'.2.2
  omega
theorem zt_32 : (32 : Int32).toInt = 32 := by decide
theorem tq_nb {n e : Int} {T : Nat → Int32} {g : Prop} {B E K : Int32} (h0 : 0 ≤ e) (h : tq n T e g B E K) : B.toInt = n ∨ ¬ T B.toNatClampNeg = 32 := by
  obtain ⟨h1, h2, h3, h4, h5⟩ := h
  have nb := ztn (i := B) (by omega)
  have e32 := zt_32
  rcases h5 with ⟨a, _⟩ | ⟨a, b, _⟩ | ⟨a, b, _⟩ | ⟨_, _, _, a, _⟩
  · exact Or.inl a
  · refine Or.inr (fun z => ?_)
    have c := (b B.toNatClampNeg (by omega) (by omega)).2.1
    rw [z] at c
    omega
  · refine Or.inr (fun z => ?_)
    have c := (b B.toNatClampNeg (by omega) (by omega)).2.1
    rw [z] at c
    omega
  · exact Or.inr a
theorem run_u {Q : Nat → Prop} {B E E' : Int32} (h0 : 0 ≤ B.toInt) (h1 : B.toInt < E.toInt) (h2 : ∀ i : Nat, B.toInt ≤ i → (i : Int) < E.toInt → Q i) (h3 : ¬ Q E.toNatClampNeg) (h1' : B.toInt < E'.toInt) (h2' : ∀ i : Nat, B.toInt ≤ i → (i : Int) < E'.toInt → Q i) (h3' : ¬ Q E'.toNatClampNeg) : E = E' := by
  have n1 := ztn (i := E) (by omega)
  have n2 := ztn (i := E') (by omega)
  refine Int32.toInt_inj.mp ?_
  rcases Int.lt_trichotomy E.toInt E'.toInt with c | c | c
  · exact absurd (h2' _ (by omega) (by omega)) h3
  · exact c
  · exact absurd (h2 _ (by omega) (by omega)) h3'
theorem tq_b {n e : Int} {T : Nat → Int32} {g : Prop} {B E K B' E' K' : Int32} (h0 : 0 ≤ e) (h : tq n T e g B E K) (h' : tq n T e g B' E' K') (c : B.toInt < B'.toInt) : False := by
  have hn := tq_nb h0 h
  obtain ⟨h1, h2, h3, h4, _⟩ := h
  obtain ⟨h1', h2', h3', h4', _⟩ := h'
  have nb := ztn (i := B) (by omega)
  rcases hn with d | d
  · omega
  · exact d (h4' _ (by omega) (by omega))
theorem tq_u {n e : Int} {T : Nat → Int32} {g : Prop} {B E K B' E' K' : Int32} (h0 : 0 ≤ e) (h : tq n T e g B E K) (h' : tq n T e g B' E' K') : B = B' ∧ E = E' ∧ K = K' := by
  have hb : B.toInt = B'.toInt := by
    rcases Int.lt_trichotomy B.toInt B'.toInt with c | c | c
    · exact absurd (tq_b h0 h h' c) id
    · exact c
    · exact absurd (tq_b h0 h' h c) id
  obtain rfl : B = B' := Int32.toInt_inj.mp hb
  obtain ⟨h1, h2, h3, h4, h5⟩ := h
  obtain ⟨h1', h2', h3', h4', h5'⟩ := h'
  have nb := ztn (i := B) (by omega)
  refine ⟨rfl, ?_⟩
  rcases h5 with ⟨a1, a2, a3⟩ | ⟨a1, a2, a3, a4⟩ | ⟨a1, a2, a3, a4⟩ | ⟨a1, a2, a3, a4, a5⟩
  · rcases h5' with ⟨b1, b2, b3⟩ | ⟨b1, b2, b3, b4⟩ | ⟨b1, b2, b3, b4⟩ | ⟨b1, b2, b3, b4, b5⟩
    · exact ⟨a3.trans b3.symm, a2.trans b2.symm⟩
    · omega
    · omega
    · omega
  · have q := a2 _ (Int.le_of_eq nb.symm) (by omega)
    rcases h5' with ⟨b1, b2, b3⟩ | ⟨b1, b2, b3, b4⟩ | ⟨b1, b2, b3, b4⟩ | ⟨b1, b2, b3, b4, b5⟩
    · omega
    · refine ⟨run_u (by omega) a1 a2 a3 b1 b2 b3, ?_⟩
      rcases a4 with ⟨x, y⟩ | ⟨x, y⟩
      · exact y.trans (b4.resolve_right (fun z => z.1 x)).2.symm
      · exact y.trans (b4.resolve_left (fun z => x z.1)).2.symm
    · exact absurd (qLD q (b2 _ (Int.le_of_eq nb.symm) (by omega))) id
    · exact absurd q b2
  · have q := a2 _ (Int.le_of_eq nb.symm) (by omega)
    rcases h5' with ⟨b1, b2, b3⟩ | ⟨b1, b2, b3, b4⟩ | ⟨b1, b2, b3, b4⟩ | ⟨b1, b2, b3, b4, b5⟩
    · omega
    · exact absurd (qLD (b2 _ (Int.le_of_eq nb.symm) (by omega)) q) id
    · obtain rfl : E = E' := run_u (by omega) a1 a2 a3 b1 b2 b3
      refine ⟨rfl, ?_⟩
      rcases a4 with ⟨x, y⟩ | ⟨x, y⟩
      · exact y.trans (b4.resolve_right (fun z => z.1 x)).2.symm
      · exact y.trans (b4.resolve_left (fun z => x z.1)).2.symm
    · exact absurd q b3
  · rcases h5' with ⟨b1, b2, b3⟩ | ⟨b1, b2, b3, b4⟩ | ⟨b1, b2, b3, b4⟩ | ⟨b1, b2, b3, b4, b5⟩
    · omega
    · exact absurd (b2 _ (Int.le_of_eq nb.symm) (by omega)) a2
    · exact absurd (b2 _ (Int.le_of_eq nb.symm) (by omega)) a3
    · exact ⟨Int32.toInt_inj.mp (by omega), a5.trans b5.symm⟩
theorem qL_e {n : Int} {T T' : Nat → Int32} {i : Nat} (h : ∀ i : Nat, (i : Int) < n → T i = T' i) : qL n T i ↔ qL n T' i := by
  unfold qL
  exact ⟨fun z => by rw [← h i z.1]; exact z, fun z => by rw [h i z.1]; exact z⟩
theorem qD_e {n : Int} {T T' : Nat → Int32} {i : Nat} (h : ∀ i : Nat, (i : Int) < n → T i = T' i) : qD n T i ↔ qD n T' i := by
  unfold qD
  exact ⟨fun z => by rw [← h i z.1]; exact z, fun z => by rw [h i z.1]; exact z⟩
theorem tq_e {n e : Int} {T T' : Nat → Int32} {g g' : Prop} {B E K : Int32} (h0 : 0 ≤ e) (ht : ∀ i : Nat, (i : Int) < n → T i = T' i) (hg : g ↔ g') (h : tq n T e g B E K) : tq n T' e g' B E K := by
  obtain ⟨h1, h2, h3, h4, h5⟩ := h
  have nb := ztn (i := B) (by omega)
  refine ⟨h1, h2, h3, fun i a b => (ht i (by omega)).symm.trans (h4 i a b), ?_⟩
  rw [← hg]
  rcases h5 with a | ⟨a1, a2, a3, a4⟩ | ⟨a1, a2, a3, a4⟩ | ⟨a1, a2, a3, a4, a5⟩
  · exact Or.inl a
  · exact Or.inr (Or.inl ⟨a1, fun i x y => (qL_e ht).mp (a2 i x y), fun z => a3 ((qL_e ht).mpr z), a4⟩)
  · exact Or.inr (Or.inr (Or.inl ⟨a1, fun i x y => (qD_e ht).mp (a2 i x y), fun z => a3 ((qD_e ht).mpr z), a4⟩))
  · exact Or.inr (Or.inr (Or.inr ⟨a1, fun z => a2 ((qL_e ht).mpr z), fun z => a3 ((qD_e ht).mpr z), by rw [← ht _ (by omega)]; exact a4, a5⟩))
/-- the reference's next word -/
theorem nQ_tq {σ : zg_S} {B E K N C : Int32} (h : nQ σ B E K N C) : tq (σ 0 14).toInt (σ 13) (σ 0 16).toInt (0 < (σ 0 16).toInt ∧ (σ 0 17 = 1 ∨ σ 0 17 = 2)) B E K := by
  obtain ⟨h1, h2, h3, h4, h5⟩ := h
  have ht : tg σ B ↔ ((0 < (σ 0 16).toInt ∧ (σ 0 17 = 1 ∨ σ 0 17 = 2)) ∧ B.toInt = (σ 0 16).toInt) := ⟨fun z => ⟨⟨z.1, z.2.1⟩, congrArg Int32.toInt z.2.2⟩, fun z => ⟨z.1.1, z.1.2, Int32.toInt_inj.mp z.2⟩⟩
  rw [ht] at h5
  refine ⟨h1, h2, h3, h4, ?_⟩
  rcases h5 with a | ⟨a1, a2, a3, a4, _⟩ | ⟨a1, a2, a3, _, a4⟩ | ⟨a1, a2, a3, a4, a5, _⟩
  · exact Or.inl a
  · exact Or.inr (Or.inl ⟨a1, a2, a3, a4⟩)
  · exact Or.inr (Or.inr (Or.inl ⟨a1, a2, a3, a4⟩))
  · exact Or.inr (Or.inr (Or.inr ⟨a1, a2, a3, a4, a5⟩))
/-! the class's way to it -/
def cl (n : Int) (T : Nat → Int32) (r : Int32) (i : Nat) : Prop := (r = 0 ∧ n ≤ i) ∨ (r = 1 ∧ qL n T i) ∨ (r = 2 ∧ qD n T i) ∨ (r = 3 ∧ (i : Int) < n ∧ ¬ qL n T i ∧ ¬ qD n T i)
theorem a_sortAt (a : Int32) (σ : zg_S) (h0 : 0 ≤ a.toInt) (hn : (σ 7 2).toInt ≤ 96) : zk (f_X1_sortAt a σ) (fun r s => σ = s ∧ cl (σ 7 2).toInt (σ 6) r a.toNatClampNeg) := by
  have na := ztn h0
  have e0 := zt_0
  have e97 := zt_97
  have e122 := zt_122
  have e48 := zt_48
  have e57 := zt_57
  have hb : a.toInt < (σ 7 2).toInt → ¬ qL (σ 7 2).toInt (σ 6) a.toNatClampNeg → zk (B_X1_sortAt_35 a (σ 6 a.toNatClampNeg) σ) (fun r s => σ = s ∧ cl (σ 7 2).toInt (σ 6) r a.toNatClampNeg) := fun hl hL => by
    unfold B_X1_sortAt_35
    refine zk_ite (fun h => ?_) (fun h => zk_ite (fun h2 => ?_) (fun h2 => ?_))
    · have g := zlt h
      exact zk_some ⟨rfl, Or.inr (Or.inr (Or.inr ⟨rfl, by omega, hL, fun z => by have := z.2.1; omega⟩))⟩
    · have g := zlt h2
      exact zk_some ⟨rfl, Or.inr (Or.inr (Or.inr ⟨rfl, by omega, hL, fun z => by have := z.2.2; omega⟩))⟩
    · have g := znlt h
      have g2 := znlt h2
      exact zk_some ⟨rfl, Or.inr (Or.inr (Or.inl ⟨rfl, by omega, by omega, by omega⟩))⟩
  unfold f_X1_sortAt
  refine zk_ite (fun h => ?_) (fun _ => zk_ite (fun h => ?_) (fun h => ?_))
  · have g := zlt h
    omega
  · have g := zlt h
    refine zk_in (zin_mk h0 (by omega)) ?_
    refine zk_ite (fun h1 => ?_) (fun h1 => zk_ite (fun h2 => ?_) (fun h2 => ?_))
    · have g1 := zlt h1
      exact hb g (fun z => by have := z.2.1; omega)
    · have g1 := zlt h2
      exact hb g (fun z => by have := z.2.2; omega)
    · have g1 := znlt h1
      have g2 := znlt h2
      exact zk_some ⟨rfl, Or.inr (Or.inl ⟨rfl, by omega, by omega, by omega⟩)⟩
  · have g := znlt h
    exact zk_some ⟨rfl, Or.inl ⟨rfl, by omega⟩⟩
theorem a210 (x y : Int32) (s : zg_S) : zk (B_X1_advance_210 x y s) (fun _ u => u 7 4 = s 7 4 ∧ u 7 5 = s 7 5 ∧ (((x = 0 ∧ y = 0) ∧ u 7 3 = s 7 3) ∨ (¬ (x = 0 ∧ y = 0) ∧ u 7 3 = 4))) := by
  have b : ¬ (x = 0 ∧ y = 0) → zk (B_X1_advance_221 s) (fun _ u => u 7 4 = s 7 4 ∧ u 7 5 = s 7 5 ∧ (((x = 0 ∧ y = 0) ∧ u 7 3 = s 7 3) ∨ (¬ (x = 0 ∧ y = 0) ∧ u 7 3 = 4))) := fun hn => by
    unfold B_X1_advance_221
    refine zk_let (fun u q => ?_)
    exact zk_some ⟨by rw [q]; exact zkeepf rfl, by rw [q]; exact zkeepf rfl, Or.inr ⟨hn, by rw [q]; exact zgot⟩⟩
  unfold B_X1_advance_210
  exact zk_ite (fun h => zk_ite (fun h2 => zk_some ⟨rfl, rfl, Or.inl ⟨⟨h, h2⟩, rfl⟩⟩) (fun h2 => b (fun z => h2 z.2))) (fun h => b (fun z => h z.1))
theorem a183 (y : Int32) (s : zg_S) (h4 : 0 ≤ (s 7 4).toInt) (h5 : 0 ≤ (s 7 5).toInt) : zk (B_X1_advance_183 y s) (fun _ u => u 7 4 = s 7 4 ∧ u 7 5 = s 7 5 ∧ (((y = 0 ∧ ¬ (s 7 3 = 2 ∧ 4 < (s 7 5).toInt - (s 7 4).toInt)) ∧ u 7 3 = s 7 3) ∨ ((¬ y = 0 ∨ (s 7 3 = 2 ∧ 4 < (s 7 5).toInt - (s 7 4).toInt)) ∧ u 7 3 = 4))) := by
  have e4 := zt_4
  have es := zsubn (s 7 5) (s 7 4) h5 h4
  unfold B_X1_advance_183 B_X1_advance_209
  refine zk_ite (fun h => zk_ite (fun h2 => ?_) (fun h2 => ?_)) (fun h => ?_)
  · have g := zle h2
    refine zk_mono (a210 y 0 s) (fun r u hp => ⟨hp.1, hp.2.1, ?_⟩)
    rcases hp.2.2 with ⟨⟨a, -⟩, b⟩ | ⟨a, b⟩
    · exact Or.inl ⟨⟨a, fun z => by have := z.2; omega⟩, b⟩
    · exact Or.inr ⟨Or.inl (fun z => a ⟨z, rfl⟩), b⟩
  · have g := znle h2
    refine zk_mono (a210 y 1 s) (fun r u hp => ⟨hp.1, hp.2.1, ?_⟩)
    rcases hp.2.2 with ⟨⟨-, a⟩, b⟩ | ⟨a, b⟩
    · exact absurd a (by decide)
    · exact Or.inr ⟨Or.inr ⟨h, by omega⟩, b⟩
  · refine zk_mono (a210 y 0 s) (fun r u hp => ⟨hp.1, hp.2.1, ?_⟩)
    rcases hp.2.2 with ⟨⟨a, -⟩, b⟩ | ⟨a, b⟩
    · exact Or.inl ⟨⟨a, fun z => h z.1⟩, b⟩
    · exact Or.inr ⟨Or.inl (fun z => a ⟨z, rfl⟩), b⟩
def aG (σ : zg_S) : Prop := σ 7 3 = 1 ∨ σ 7 3 = 2
def AQ (σ : zg_S) (_ : Int32) (s : zg_S) : Prop := tq (σ 7 2).toInt (σ 6) (σ 7 5).toInt (aG σ) (s 7 4) (s 7 5) (s 7 3)
def aR (σ : zg_S) (r B E : Int32) : Prop := (r = 1 ∧ (∀ i : Nat, B.toInt ≤ i → (i : Int) < E.toInt → qL (σ 7 2).toInt (σ 6) i)) ∨ (r = 2 ∧ (∀ i : Nat, B.toInt ≤ i → (i : Int) < E.toInt → qD (σ 7 2).toInt (σ 6) i)) ∨ (r = 3 ∧ E.toInt = B.toInt + 1 ∧ ¬ qL (σ 7 2).toInt (σ 6) B.toNatClampNeg ∧ ¬ qD (σ 7 2).toInt (σ 6) B.toNatClampNeg ∧ ¬ σ 6 B.toNatClampNeg = 32)
theorem afin (x1 B E r : Int32) (σ t : zg_S) (hx : (x1 = 1 ∧ aG σ) ∨ (x1 = 0 ∧ ¬ aG σ)) (t3 : t 7 3 = r) (t4 : t 7 4 = B) (t5 : t 7 5 = E) (e0 : 0 ≤ (σ 7 5).toInt) (h1 : (σ 7 5).toInt ≤ B.toInt) (h2 : ∀ i : Nat, (σ 7 5).toInt ≤ i → (i : Int) < B.toInt → σ 6 i = 32) (h3 : B.toInt < E.toInt) (h4 : E.toInt ≤ (σ 7 2).toInt) (hr : aR σ r B E) (hL : r = 1 → ¬ qL (σ 7 2).toInt (σ 6) E.toNatClampNeg) (hD : r = 2 → ¬ qD (σ 7 2).toInt (σ 6) E.toNatClampNeg) : zk (B_X1_advance_158 x1 (σ 7 5) t) (AQ σ) := by
  have yy : ∀ y : Int32, ((y = 0 ∧ (r = 3 ∨ ¬ (aG σ ∧ B.toInt = (σ 7 5).toInt))) ∨ (¬ y = 0 ∧ ¬ r = 3 ∧ aG σ ∧ B.toInt = (σ 7 5).toInt)) → zk (B_X1_advance_183 y t) (AQ σ) := fun y hy => by
    refine zk_mono (a183 y t (by rw [t4]; omega) (by rw [t5]; omega)) (fun _ u hp => ?_)
    obtain ⟨p4, p5, p3⟩ := hp
    rw [t3, t4, t5] at p3
    unfold AQ
    rw [p4, p5, t4, t5]
    refine ⟨h1, by omega, h4, h2, ?_⟩
    rcases hr with ⟨rfl, q⟩ | ⟨rfl, q⟩ | ⟨rfl, q1, q2, q3, q4⟩
    · refine Or.inr (Or.inl ⟨h3, q, hL rfl, ?_⟩)
      rcases p3 with ⟨⟨a, b⟩, c⟩ | ⟨a, c⟩
      · refine Or.inr ⟨?_, c⟩
        rcases hy with ⟨_, hy⟩ | ⟨hy, _⟩
        · exact hy.resolve_left (by decide)
        · exact absurd a hy
      · refine Or.inl ⟨?_, c⟩
        have a' := a.resolve_right (fun z => absurd z.1 (by decide))
        rcases hy with ⟨hy, _⟩ | ⟨_, _, hy⟩
        · exact absurd hy a'
        · exact hy
    · refine Or.inr (Or.inr (Or.inl ⟨h3, q, hD rfl, ?_⟩))
      rcases p3 with ⟨⟨a, b⟩, c⟩ | ⟨a, c⟩
      · refine Or.inr ⟨?_, c⟩
        rcases hy with ⟨_, hy⟩ | ⟨hy, _⟩
        · exact fun z => z.elim (hy.resolve_left (by decide)) (fun z => b ⟨rfl, z⟩)
        · exact absurd a hy
      · refine Or.inl ⟨?_, c⟩
        rcases a with a | a
        · rcases hy with ⟨hy, _⟩ | ⟨_, _, hy⟩
          · exact absurd hy a
          · exact Or.inl hy
        · exact Or.inr a.2
    · refine Or.inr (Or.inr (Or.inr ⟨q1, q2, q3, q4, ?_⟩))
      rcases p3 with ⟨_, c⟩ | ⟨a, c⟩
      · exact c
      · have a' := a.resolve_right (fun z => absurd z.1 (by decide))
        rcases hy with ⟨hy, _⟩ | ⟨_, hy, _⟩
        · exact absurd hy a'
        · exact absurd rfl hy
  unfold B_X1_advance_158 B_X1_advance_182
  refine zk_ite (fun h => ?_) (fun h => zk_ite (fun h' => ?_) (fun h' => zk_ite (fun h'' => ?_) (fun h'' => ?_)))
  · rcases hx with hx | hx
    · exact absurd (hx.1.symm.trans h) (by decide)
    · exact yy 0 (Or.inl ⟨rfl, Or.inr (fun z => hx.2 z.1)⟩)
  · exact yy 0 (Or.inl ⟨rfl, Or.inl (t3.symm.trans h')⟩)
  · rcases hx with hx | hx
    · rw [t3] at h'
      rw [t4] at h''
      exact yy 1 (Or.inr ⟨by decide, h', hx.2, congrArg Int32.toInt h''⟩)
    · exact absurd hx.1 h
  · rw [t4] at h''
    exact yy 0 (Or.inl ⟨rfl, Or.inr (fun z => h'' (Int32.toInt_inj.mp z.2))⟩)
theorem a111 (x1 B r : Int32) (σ s : zg_S) (hx : (x1 = 1 ∧ aG σ) ∨ (x1 = 0 ∧ ¬ aG σ)) (hn : (σ 7 2).toInt ≤ 96) (s6 : s 6 = σ 6) (s2 : s 7 2 = σ 7 2) (s3 : s 7 3 = r) (s4 : s 7 4 = B) (s5 : (s 7 5).toInt = B.toInt + 1) (e0 : 0 ≤ (σ 7 5).toInt) (h1 : (σ 7 5).toInt ≤ B.toInt) (h2 : ∀ i : Nat, (σ 7 5).toInt ≤ i → (i : Int) < B.toInt → σ 6 i = 32) (h4 : B.toInt < (σ 7 2).toInt) (hb : ¬ σ 6 B.toNatClampNeg = 32) (hc : cl (σ 7 2).toInt (σ 6) r B.toNatClampNeg) : zk (L_X1_advance_111 zfu x1 (σ 7 5) s) (AQ σ) := by
  have e1 := zt_1
  have nb := ztn (i := B) (by omega)
  have hr : aR σ r B (s 7 5) := by
    rcases hc with ⟨_, z⟩ | ⟨rfl, z⟩ | ⟨rfl, z⟩ | ⟨rfl, z1, z2, z3⟩
    · omega
    · exact Or.inl ⟨rfl, fun i a b => by rw [show i = B.toNatClampNeg by omega]; exact z⟩
    · exact Or.inr (Or.inl ⟨rfl, fun i a b => by rw [show i = B.toNatClampNeg by omega]; exact z⟩)
    · exact Or.inr (Or.inr ⟨rfl, s5, z2, z3, hb⟩)
  unfold L_X1_advance_111
  refine zl_II (fun (y1 y2 : Int32) (t : zg_S) => y1 = x1 ∧ y2 = σ 7 5 ∧ t 6 = σ 6 ∧ t 7 2 = σ 7 2 ∧ t 7 3 = r ∧ t 7 4 = B ∧ B.toInt < (t 7 5).toInt ∧ (t 7 5).toInt ≤ (σ 7 2).toInt ∧ aR σ r B (t 7 5)) (fun (_ _ : Int32) (t : zg_S) => (97 - (t 7 5).toInt).toNat) ?_ zfu _ _ _ ⟨rfl, rfl, s6, s2, s3, s4, by omega, by omega, hr⟩ (by unfold zfu; show (97 - (s 7 5).toInt).toNat < 100000; omega)
  intro rec y1 y2 t hI ih
  obtain ⟨rfl, rfl, t6, t2, t3, t4, i1, i2, i3⟩ := hI
  have ne := ztn (i := t 7 5) (by omega)
  unfold B_X1_advance_111
  rw [t3, t2]
  refine zk_ite (fun h => ?_) (fun h => zk_ite (fun h' => ?_) (fun h' => ?_))
  · exact afin y1 B (t 7 5) r σ t hx t3 t4 rfl e0 h1 h2 i1 i2 i3 (fun z => absurd (z.symm.trans h) (by decide)) (fun z => absurd (z.symm.trans h) (by decide))
  · have g := zle h'
    exact afin y1 B (t 7 5) r σ t hx t3 t4 rfl e0 h1 h2 i1 i2 i3 (fun _ z => by have := z.1; omega) (fun _ z => by have := z.1; omega)
  · have g := znle h'
    refine zk_call (a_sortAt (t 7 5) t (by omega) (by rw [t2]; exact hn)) (fun r' u hp => ?_)
    obtain ⟨rfl, hc'⟩ := hp
    rw [t2, t6] at hc'
    refine zk_ite (fun hq => ?_) (fun hq => ?_)
    · rw [t3] at hq
      subst hq
      refine zk_let (fun u q => ?_)
      have ex := zTe (zTadd (zTs (t 7 5)) (zTl zt_1) (by omega) (by omega))
      have u5 : (u 7 5).toInt = (t 7 5).toInt + 1 := by rw [q]; exact (congrArg Int32.toInt zgot).trans ex
      refine ih y1 _ u ⟨rfl, rfl, by rw [q]; exact (zg_row_ne (by decide)).trans t6, by rw [q]; exact (zkeepf rfl).trans t2, by rw [q]; exact (zkeepf rfl).trans t3, by rw [q]; exact (zkeepf rfl).trans t4, by omega, by omega, ?_⟩ (by show (97 - (u 7 5).toInt).toNat < (97 - (t 7 5).toInt).toNat; omega)
      rcases i3 with ⟨rfl, z⟩ | ⟨rfl, z⟩ | ⟨rfl, _⟩
      · refine Or.inl ⟨rfl, fun i a b => ?_⟩
        by_cases c : (i : Int) < (t 7 5).toInt
        · exact z i a c
        · rw [show i = (t 7 5).toNatClampNeg by omega]
          rcases hc' with ⟨k, _⟩ | ⟨_, k⟩ | ⟨k, _⟩ | ⟨k, _⟩
          · exact absurd k (by decide)
          · exact k
          · exact absurd k (by decide)
          · exact absurd k (by decide)
      · refine Or.inr (Or.inl ⟨rfl, fun i a b => ?_⟩)
        by_cases c : (i : Int) < (t 7 5).toInt
        · exact z i a c
        · rw [show i = (t 7 5).toNatClampNeg by omega]
          rcases hc' with ⟨k, _⟩ | ⟨k, _⟩ | ⟨_, k⟩ | ⟨k, _⟩
          · exact absurd k (by decide)
          · exact absurd k (by decide)
          · exact k
          · exact absurd k (by decide)
      · exact absurd rfl h
    · rw [t3] at hq
      refine afin y1 B (t 7 5) r σ t hx t3 t4 rfl e0 h1 h2 i1 i2 i3 (fun e z => hq ?_) (fun e z => hq ?_)
      · rcases hc' with ⟨_, k⟩ | ⟨k, _⟩ | ⟨_, k⟩ | ⟨_, _, k, _⟩
        · have := z.1; omega
        · exact k.trans e.symm
        · exact absurd (qLD z k) id
        · exact absurd z k
      · rcases hc' with ⟨_, k⟩ | ⟨_, k⟩ | ⟨k, _⟩ | ⟨_, _, _, k⟩
        · have := z.1; omega
        · exact absurd (qLD k z) id
        · exact k.trans e.symm
        · exact absurd z k
theorem a73 (x1 : Int32) (σ s : zg_S) (hx : (x1 = 1 ∧ aG σ) ∨ (x1 = 0 ∧ ¬ aG σ)) (hn : (σ 7 2).toInt ≤ 96) (s6 : s 6 = σ 6) (s2 : s 7 2 = σ 7 2) (e0 : 0 ≤ (σ 7 5).toInt) (h1 : (σ 7 5).toInt ≤ (s 7 4).toInt) (h2 : ∀ i : Nat, (σ 7 5).toInt ≤ i → (i : Int) < (s 7 4).toInt → σ 6 i = 32) (h3 : (s 7 4).toInt ≤ (σ 7 2).toInt) (hb : (s 7 4).toInt = (σ 7 2).toInt ∨ ¬ σ 6 (s 7 4).toNatClampNeg = 32) : zk (B_X1_advance_73 x1 (σ 7 5) s) (AQ σ) := by
  have e1 := zt_1
  have nb := ztn (i := s 7 4) (by omega)
  unfold B_X1_advance_73
  refine zk_let (fun t q => ?_)
  have t6 : t 6 = σ 6 := by rw [q]; exact (zg_row_ne (by decide)).trans s6
  have t2 : t 7 2 = σ 7 2 := by rw [q]; exact (zkeepf rfl).trans s2
  have t4 : t 7 4 = s 7 4 := by rw [q]; exact zkeepf rfl
  have t5 : t 7 5 = s 7 4 := by rw [q]; exact zgot
  refine zk_call (a_sortAt (t 7 4) t (by rw [t4]; omega) (by rw [t2]; exact hn)) (fun r t' hp => ?_)
  obtain ⟨rfl, hc⟩ := hp
  rw [t2, t6, t4] at hc
  refine zk_let (fun u q => ?_)
  have u6 : u 6 = σ 6 := by rw [q]; exact (zg_row_ne (by decide)).trans t6
  have u2 : u 7 2 = σ 7 2 := by rw [q]; exact (zkeepf rfl).trans t2
  have u3 : u 7 3 = r := by rw [q]; exact zgot
  have u4 : u 7 4 = s 7 4 := by rw [q]; exact (zkeepf rfl).trans t4
  have u5 : u 7 5 = s 7 4 := by rw [q]; exact (zkeepf rfl).trans t5
  rw [u3]
  refine zk_ite (fun h => zk_some ?_) (fun h => ?_)
  · unfold AQ
    rw [u4, u5, u3]
    refine ⟨h1, Int.le_refl _, h3, h2, Or.inl ⟨?_, h, rfl⟩⟩
    rcases hc with ⟨_, k⟩ | ⟨k, _⟩ | ⟨k, _⟩ | ⟨k, _⟩
    · omega
    · exact absurd (k.symm.trans h) (by decide)
    · exact absurd (k.symm.trans h) (by decide)
    · exact absurd (k.symm.trans h) (by decide)
  · have hlt : (s 7 4).toInt < (σ 7 2).toInt := by
      rcases hc with ⟨k, _⟩ | ⟨_, k⟩ | ⟨_, k⟩ | ⟨_, k, _⟩
      · exact absurd k h
      · have := k.1; omega
      · have := k.1; omega
      · omega
    refine zk_let (fun v q => ?_)
    rw [u5] at q
    have ex := zTe (zTadd (zTs (s 7 4)) (zTl zt_1) (by omega) (by omega))
    exact a111 x1 (s 7 4) r σ v hx hn (by rw [q]; exact (zg_row_ne (by decide)).trans u6) (by rw [q]; exact (zkeepf rfl).trans u2) (by rw [q]; exact (zkeepf rfl).trans u3) (by rw [q]; exact (zkeepf rfl).trans u4) (by rw [q]; exact (congrArg Int32.toInt zgot).trans ex) e0 h1 h2 hlt (hb.resolve_left (by omega)) hc
theorem a21 (x1 : Int32) (σ : zg_S) (hx : (x1 = 1 ∧ aG σ) ∨ (x1 = 0 ∧ ¬ aG σ)) (hn : (σ 7 2).toInt ≤ 96) (e0 : 0 ≤ (σ 7 5).toInt) (h3 : (σ 7 5).toInt ≤ (σ 7 2).toInt) : zk (B_X1_advance_21 x1 σ) (AQ σ) := by
  have e1 := zt_1
  unfold B_X1_advance_21
  refine zk_let (fun s q => ?_)
  have s6 : s 6 = σ 6 := by rw [q]; exact zg_row_ne (by decide)
  have s2 : s 7 2 = σ 7 2 := by rw [q]; exact zkeepf rfl
  have s4 : s 7 4 = σ 7 5 := by rw [q]; exact zgot
  unfold L_X1_advance_35
  refine zl_II (fun (y1 y2 : Int32) (t : zg_S) => y1 = x1 ∧ y2 = σ 7 5 ∧ t 6 = σ 6 ∧ t 7 2 = σ 7 2 ∧ (σ 7 5).toInt ≤ (t 7 4).toInt ∧ (t 7 4).toInt ≤ (σ 7 2).toInt ∧ ∀ i : Nat, (σ 7 5).toInt ≤ i → (i : Int) < (t 7 4).toInt → σ 6 i = 32) (fun (_ _ : Int32) (t : zg_S) => (97 - (t 7 4).toInt).toNat) ?_ zfu _ _ _ ⟨rfl, rfl, s6, s2, by rw [s4]; exact Int.le_refl _, by rw [s4]; exact h3, fun i a b => by rw [s4] at b; omega⟩ (by unfold zfu; show (97 - (s 7 4).toInt).toNat < 100000; rw [s4]; omega)
  intro rec y1 y2 t hI ih
  obtain ⟨rfl, rfl, t6, t2, i1, i2, i3⟩ := hI
  have nb := ztn (i := t 7 4) (by omega)
  unfold B_X1_advance_35
  rw [t2, t6]
  refine zk_ite (fun h => ?_) (fun h => ?_)
  · have g := zle h
    exact a73 y1 σ t hx hn t6 t2 e0 i1 i3 i2 (Or.inl (by omega))
  · have g := znle h
    refine zk_in (zin_mk (by omega) (by omega)) ?_
    refine zk_ite (fun h' => ?_) (fun h' => a73 y1 σ t hx hn t6 t2 e0 i1 i3 i2 (Or.inr h'))
    refine zk_let (fun u q => ?_)
    have ex := zTe (zTadd (zTs (t 7 4)) (zTl zt_1) (by omega) (by omega))
    have u4 : (u 7 4).toInt = (t 7 4).toInt + 1 := by rw [q]; exact (congrArg Int32.toInt zgot).trans ex
    refine ih y1 _ u ⟨rfl, rfl, by rw [q]; exact (zg_row_ne (by decide)).trans t6, by rw [q]; exact (zkeepf rfl).trans t2, by omega, by omega, fun i a b => ?_⟩ (by show (97 - (u 7 4).toInt).toNat < (97 - (t 7 4).toInt).toNat; omega)
    by_cases c : (i : Int) < (t 7 4).toInt
    · exact i3 i a c
    · rw [show i = (t 7 4).toNatClampNeg by omega]
      exact h'
theorem a_adv (σ : zg_S) (hn : (σ 7 2).toInt ≤ 96) (e0 : 0 ≤ (σ 7 5).toInt) (h3 : (σ 7 5).toInt ≤ (σ 7 2).toInt) : zk (f_X1_advance σ) (fun r s => AQ σ r s ∧ wr W_X1_advance σ s) := by
  refine zk_w ?_ (w_X1_advance σ)
  unfold f_X1_advance B_X1_advance_16
  refine zk_ite (fun h => a21 1 σ (Or.inl ⟨rfl, Or.inl h⟩) hn e0 h3) (fun h => zk_ite (fun h' => a21 1 σ (Or.inl ⟨rfl, Or.inr h'⟩) hn e0 h3) (fun h' => a21 0 σ (Or.inr ⟨rfl, fun z => z.elim h h'⟩) hn e0 h3))
