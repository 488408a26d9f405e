/-! the whole tape read -/
theorem z2_kR {o o' : Option (Int32 × zg_S)} {P : Int32 → zg_S → Int32 → zg_S → Prop} {Q : Int32 → zg_S → Prop} (h : z2 o o' P) (h' : zk o' Q) : z2 o o' (fun r s r' t => P r s r' t ∧ Q r' t) := by
  obtain ⟨r, s, r', t, e, e', q⟩ := h
  obtain ⟨r2, t2, e2, q2⟩ := h'
  have e3 := e'.symm.trans e2
  injection e3 with e3
  injection e3 with ea eb
  subst ea
  subst eb
  exact ⟨r, s, _, _, e, e', q, q2⟩
theorem held_id {n : Int32} (h0 : 0 ≤ n.toInt) (h1 : n.toInt ≤ 96) : sHeld n 0 96 = n := by
  have e0 := zt_0
  have e96 := zt_96
  unfold sHeld
  rw [show (if (96 : Int32) < n then (96 : Int32) else n) = n from if_neg (fun z => by have := zlt z; omega)]
  by_cases c : (0 : Int32) < n
  · rw [if_pos c]
  · rw [if_neg c]
    have := znlt c
    exact Int32.toInt_inj.mp (by omega)
def PQ (τ : zg_S) (r : Int32) (s : zg_S) (r' : Int32) (t : zg_S) : Prop := t 0 14 = 0 ∧ ((r' = -1 ∧ r = t 0 15 ∧ ¬ r = -1000000005) ∨ (r = -1000000005 ∧ KY r' ∧ SP r' s t ∧ s 8 1 = t 0 24 ∧ 0 ≤ (t 0 22).toInt ∧ (t 0 22).toInt ≤ 96 ∧ mb t = bb τ))
theorem z2_111 {τ s t : zg_S} {x : Int32} (hB : s 7 4 = t 0 15) (it : IMc t) : z2 (some (s 7 4, s)) (B_X7_parse_111 x 0 t) (PQ τ) := by
  have f15 : 0 ≤ (t 0 15).toInt ∧ (t 0 15).toInt ≤ 96 := it 0 15
  unfold B_X7_parse_111
  refine z2_lR (fun u qu => z2_pR rfl (z2_some ⟨by rw [qu]; exact zgot, Or.inl ⟨rfl, ?_, fun z => ?_⟩⟩))
  · rw [qu]
    exact hB.trans (zkeepf rfl).symm
  · rw [← hB, z] at f15
    exact absurd f15.1 (by decide)
theorem c_begin (c : Int32) (σ : zg_S) : zk (f_X5_begin 8 c σ) (fun _ s => (∀ p, p ≠ 8 → s p = σ p) ∧ s 8 0 = c ∧ s 8 1 = 0 ∧ s 8 2 = 0) := by
  unfold f_X5_begin
  refine zk_let (fun a qa => zk_let (fun b qb => zk_let (fun d qd => zk_some ⟨fun p hp => ?_, ?_, ?_, ?_⟩)))
  · rw [qd]; refine (zg_row_ne hp).trans ?_
    rw [qb]; refine (zg_row_ne hp).trans ?_
    rw [qa]; exact zg_row_ne hp
  · rw [qd]; refine (zkeepf rfl).trans ?_
    rw [qb]; refine (zkeepf rfl).trans ?_
    rw [qa]; exact zgot
  · rw [qd]; refine (zkeepf rfl).trans ?_
    rw [qb]; exact zgot
  · rw [qd]; exact zgot
def zk_text (σ : zg_S) : Option (Int32 × zg_S) := zbd (f_X1_advance σ) (fun (r38 : Int32) (σ39 : zg_S) => zbd (f_X1_keyHere σ39) (fun (r45 : Int32) (σ46 : zg_S) => (if r45 = (-1000000005) then some (σ46 7 4, σ46) else zbd (f_X5_begin 8 r45 σ46) (fun (r56 : Int32) (σ57 : zg_S) => zbd (f_X1_advance σ57) (fun (r63 : Int32) (σ64 : zg_S) => zbd (G_rd 128 0 0 σ64) (fun (r70 : Int32) (σ71 : zg_S) => (if r70 = 0 then some (σ71 7 4, σ71) else (if (σ71 7 3) = 0 then some ((-1000000005), σ71) else some (σ71 7 4, σ71)))))))))
theorem z2_60 {σ v τ : zg_S} {y0 : Int32} (hv : IMc v) (hP : TP σ v) (k16 : v 0 16 = 0) (k17 : v 0 17 = 3) (k20 : v 0 20 = 0) (k21 : v 0 21 = 0) (k22 : v 0 22 = 0) (k24 : v 0 24 = 0) (c3 : σ 7 3 = 0) (c5 : σ 7 5 = 0) (c6 : σ 7 6 = 0) (c7 : σ 7 7 = 0) (hy : y0.toNatClampNeg = bb τ) (y1 : 51 ≤ y0.toInt) (y2 : y0.toInt ≤ 2847) : z2 (zk_text σ) (B_X7_parse_60 y0 v) (PQ τ) := by
  have e0 := zt_0
  unfold zk_text B_X7_parse_60
  refine z2_lR (fun w qw => ?_)
  have iw : IMc w := by rw [qw]; exact IMc.up hv (zTs _) trivial
  have kk : ∀ j, j ≠ 23 → w 0 j = v 0 j := fun j hj => by rw [qw]; exact zkeepn hj
  have k1 : ∀ p, p ≠ 0 → w p = v p := fun p hp => by rw [qw]; exact zg_row_ne hp
  have k23 : w 0 23 = y0 := by rw [qw]; exact zgot
  have f14 : 0 ≤ (w 0 14).toInt ∧ (w 0 14).toInt ≤ 96 := iw 0 14
  have w16 : w 0 16 = 0 := (kk 16 (by decide)).trans k16
  have hPw : TP σ w := by
    unfold TP
    rw [kk 14 (by decide), k1 13 (by decide)]
    exact hP
  have hg : TG σ w := by
    unfold TG aG
    rw [c3, w16]
    exact ⟨fun z => absurd z (by decide), fun z => absurd z.1 (by decide)⟩
  refine z2_adv0 iw (by rw [w16]; omega) hPw (c5.trans w16.symm) hg (fun r s r' t hw kt it hT hPt hB => ?_)
  refine z2_cc (z2_key it hT hPt) (fun k s2 k' t2 hq => ?_)
  obtain ⟨rfl, rfl, hq⟩ := hq
  rcases hq with ⟨rfl, rfl⟩ | ⟨rfl, hk⟩
  · refine z2_pL rfl (z2_pR (by decide) ?_)
    unfold B_X7_parse_81
    exact z2_pR rfl (z2_111 hT.1 it)
  · refine z2_nL (fun z => ?_) (z2_nR (fun z => ?_) ?_)
    · subst z; unfold KY at hk; exact absurd hk (by decide)
    · rcases hk with rfl | rfl | rfl
      · exact absurd z (by decide)
      · exact absurd z (by decide)
      · exact absurd z (by decide)
    unfold B_X7_parse_81
    refine z2_nR (by decide) (z2_cL (c_begin k s) (fun _ b hb => ?_))
    obtain ⟨b1, b2, b3, b4⟩ := hb
    have cw : ∀ p j, p ≠ 7 → s p j = σ p j := fun p j hn => hw p j (by unfold W_X1_advance; omega)
    have s76 : s 7 6 = 0 := (hw 7 6 (by unfold W_X1_advance; omega)).trans c6
    have s77 : s 7 7 = 0 := (hw 7 7 (by unfold W_X1_advance; omega)).trans c7
    have t20 : t 0 20 = 0 := (kt.2 20 (by decide)).trans ((kk 20 (by decide)).trans k20)
    have t21 : t 0 21 = 0 := (kt.2 21 (by decide)).trans ((kk 21 (by decide)).trans k21)
    have t22 : t 0 22 = 0 := (kt.2 22 (by decide)).trans ((kk 22 (by decide)).trans k22)
    have t24 : t 0 24 = 0 := (kt.2 24 (by decide)).trans ((kk 24 (by decide)).trans k24)
    have t23 : t 0 23 = y0 := (kt.2 23 (by decide)).trans k23
    have f16 : 0 ≤ (t 0 16).toInt ∧ (t 0 16).toInt ≤ 96 := it 0 16
    have hTb : TK b t := by
      unfold TK
      rw [b1 7 (by decide)]
      exact hT
    have hPb : TP b t := by
      unfold TP
      rw [b1 7 (by decide), b1 6 (by decide)]
      exact hPt
    have hsB : sB t := by
      unfold sB
      rw [t22, t23]
      exact ⟨by omega, by omega, y1, y2⟩
    refine z2_adv (key := k) it hsB hT.2.2.2.2.2.1 (by rw [t22]; omega) (by rw [t20, t21]; decide) hPb hTb.2.2.1 hTb.tg ⟨b2, b4.trans t22.symm, fun i hi => by rw [t22] at hi; omega⟩ ⟨by rw [b1 7 (by decide), s76, t20], by rw [b1 7 (by decide), s77, t21]⟩ (b3.trans t24.symm) (fun _ s3 _ t3 p3 k3 _ => ?_)
    have n3 : mN t3 = 80 := by
      unfold mN
      rw [k3.2 20 (by decide), k3.2 21 (by decide), t20, t21]
      decide
    refine z2_cc (z2_kR ((both_read 128 128).1 k s3 t3 hk p3 (by omega) (by omega)) (s_G_mp 128 0 k t3 (by decide) p3.1 (by omega))) (fun r4 s4 r4' t4 hq => ?_)
    obtain ⟨⟨rfl, hq⟩, hM, _⟩ := hq
    have i4 := hM.1
    rcases hq with ⟨rfl, hB4⟩ | ⟨rfl, p4, _⟩
    · refine z2_pL rfl (z2_pR rfl ?_)
      unfold B_X7_parse_109 B_X7_parse_110
      exact z2_111 hB4 i4
    · refine z2_nL (by decide) (z2_nR (by decide) ?_)
      rw [p4.2.1.2.1]
      by_cases c0 : t4 0 17 = 0
      · refine z2_pL c0 (z2_pR c0 ?_)
        unfold B_X7_parse_110 B_X7_parse_111
        refine z2_lR (fun u qu => z2_nR (by decide) (z2_some ⟨by rw [qu]; exact zgot, Or.inr ⟨rfl, hk, ?_, ?_, ?_, ?_, ?_⟩⟩))
        · exact p4.2.2.2.1.k (fun _ => rfl) (fun _ => rfl) (by rw [qu]; exact zkeepf rfl) (by rw [qu]; exact zkeepf rfl) (by rw [qu]; exact zg_row_ne (by decide))
        · rw [qu]
          exact p4.2.2.2.2.2.trans (zkeepf rfl).symm
        · rw [show u 0 22 = t4 0 22 by rw [qu]; exact zkeepf rfl]
          exact p4.1.2.1.1
        · rw [show u 0 22 = t4 0 22 by rw [qu]; exact zkeepf rfl]
          exact p4.1.2.1.2.1
        · rw [show mb u = mb t4 from congrArg Int32.toNatClampNeg (by rw [qu]; exact zkeepf rfl), mb_eq hM.2.1]
          unfold mb
          rw [k3.2 23 (by decide), t23]
          exact hy
      · refine z2_nL c0 (z2_nR c0 ?_)
        unfold B_X7_parse_109 B_X7_parse_110
        exact z2_111 p4.2.1.1 i4
theorem z2_parse {σ τ : zg_S} (hm : IMc τ) (h10 : σ 0 10 = τ 0 14) (ht : ∀ i : Nat, (i : Int) < (τ 0 14).toInt → σ 6 i = τ 13 i) : z2 (f_X1_readText (σ 0 10) σ) (f_X7_parse τ) (PQ τ) := by
  have e0 := zt_0
  have e4 := zt_4
  have e14 := zt_14
  have f14 : 0 ≤ (τ 0 14).toInt ∧ (τ 0 14).toInt ≤ 96 := hm 0 14
  have f11 : 0 ≤ (τ 1 1).toInt ∧ (τ 1 1).toInt ≤ 14 := hm 1 1
  unfold f_X1_readText
  rw [h10]
  refine z2_eL (c_held _ _ _ σ) ?_
  rw [held_id f14.1 f14.2]
  refine z2_lL (fun s1 q1 => z2_lL (fun s2 q2 => z2_lL (fun s3 q3 => z2_lL (fun s4 q4 => z2_lL (fun s5 q5 => ?_)))))
  have r : ∀ p, p ≠ 7 → s5 p = σ p := fun p hp => by
    rw [q5]; refine (zg_row_ne hp).trans ?_
    rw [q4]; refine (zg_row_ne hp).trans ?_
    rw [q3]; refine (zg_row_ne hp).trans ?_
    rw [q2]; refine (zg_row_ne hp).trans ?_
    rw [q1]; exact zg_row_ne hp
  have c7 : s5 7 7 = 0 := by rw [q5]; exact zgot
  have c6 : s5 7 6 = 0 := by rw [q5]; refine (zkeepf rfl).trans ?_; rw [q4]; exact zgot
  have c5 : s5 7 5 = 0 := by rw [q5]; refine (zkeepf rfl).trans ?_; rw [q4]; refine (zkeepf rfl).trans ?_; rw [q3]; exact zgot
  have c3 : s5 7 3 = 0 := by rw [q5]; refine (zkeepf rfl).trans ?_; rw [q4]; refine (zkeepf rfl).trans ?_; rw [q3]; refine (zkeepf rfl).trans ?_; rw [q2]; exact zgot
  have c2 : s5 7 2 = τ 0 14 := by rw [q5]; refine (zkeepf rfl).trans ?_; rw [q4]; refine (zkeepf rfl).trans ?_; rw [q3]; refine (zkeepf rfl).trans ?_; rw [q2]; refine (zkeepf rfl).trans ?_; rw [q1]; exact zgot
  show z2 (zk_text s5) (f_X7_parse τ) (PQ τ)
  unfold f_X7_parse
  refine z2_lR (fun t1 p1 => z2_lR (fun t2 p2 => z2_lR (fun t3 p3 => z2_lR (fun t4 p4 => z2_lR (fun t5 p5 => z2_lR (fun t6 p6 => ?_))))))
  have h1 : IMc t1 := by rw [p1]; exact IMc.up hm (zTl zt_0) ⟨by omega, by omega⟩
  have h2 : IMc t2 := by rw [p2]; exact IMc.up h1 (zTs _) trivial
  have h3 : IMc t3 := by rw [p3]; exact IMc.up h2 (zTs _) trivial
  have h4 : IMc t4 := by rw [p4]; exact IMc.up h3 (zTs _) trivial
  have h5 : IMc t5 := by rw [p5]; exact IMc.up h4 (zTs _) trivial
  have h6 : IMc t6 := by rw [p6]; exact IMc.up h5 (zTs _) trivial
  have rt : ∀ p, p ≠ 0 → t6 p = τ p := fun p hp => by
    rw [p6]; refine (zg_row_ne hp).trans ?_
    rw [p5]; refine (zg_row_ne hp).trans ?_
    rw [p4]; refine (zg_row_ne hp).trans ?_
    rw [p3]; refine (zg_row_ne hp).trans ?_
    rw [p2]; refine (zg_row_ne hp).trans ?_
    rw [p1]; exact zg_row_ne hp
  have k14 : t6 0 14 = τ 0 14 := by rw [p6]; refine (zkeepf rfl).trans ?_; rw [p5]; refine (zkeepf rfl).trans ?_; rw [p4]; refine (zkeepf rfl).trans ?_; rw [p3]; refine (zkeepf rfl).trans ?_; rw [p2]; refine (zkeepf rfl).trans ?_; rw [p1]; exact zkeepf rfl
  have k24 : t6 0 24 = 0 := by rw [p6]; exact zgot
  have k22 : t6 0 22 = 0 := by rw [p6]; refine (zkeepf rfl).trans ?_; rw [p5]; exact zgot
  have k21 : t6 0 21 = 0 := by rw [p6]; refine (zkeepf rfl).trans ?_; rw [p5]; refine (zkeepf rfl).trans ?_; rw [p4]; exact zgot
  have k20 : t6 0 20 = 0 := by rw [p6]; refine (zkeepf rfl).trans ?_; rw [p5]; refine (zkeepf rfl).trans ?_; rw [p4]; refine (zkeepf rfl).trans ?_; rw [p3]; exact zgot
  have k17 : t6 0 17 = 3 := by rw [p6]; refine (zkeepf rfl).trans ?_; rw [p5]; refine (zkeepf rfl).trans ?_; rw [p4]; refine (zkeepf rfl).trans ?_; rw [p3]; refine (zkeepf rfl).trans ?_; rw [p2]; exact zgot
  have k16 : t6 0 16 = 0 := by rw [p6]; refine (zkeepf rfl).trans ?_; rw [p5]; refine (zkeepf rfl).trans ?_; rw [p4]; refine (zkeepf rfl).trans ?_; rw [p3]; refine (zkeepf rfl).trans ?_; rw [p2]; refine (zkeepf rfl).trans ?_; rw [p1]; exact zgot
  have hP : TP s5 t6 := by
    unfold TP
    rw [c2, k14, rt 13 (by decide), r 6 (by decide)]
    exact ⟨rfl, ht⟩
  have r11 : t6 1 1 = τ 1 1 := congrFun (rt 1 (by decide)) 1
  rw [r11]
  refine z2_iR (fun hl => ?_) (fun hl => ?_)
  · have g := zle hl
    exact z2_60 h6 hP k16 k17 k20 k21 k22 k24 c3 c5 c6 c7 (by unfold bb; rw [if_neg (by omega)]; rfl) (by decide) (by decide)
  · have g := znle hl
    refine z2_cR (s_X7_textAt (τ 1 1) t6 h6 f11.1 (by omega)) (fun rr t hp => ?_)
    obtain ⟨rfl, hr⟩ := hp
    have ea := zTadd (zTl hr) (zTl zt_4) (by omega) (by omega)
    have n1 := ztn f11.1
    exact z2_60 h6 hP k16 k17 k20 k21 k22 k24 c3 c5 c6 c7 (by unfold bb; rw [if_pos (by omega)]; exact zTn ea (by omega)) (by rw [zTe ea]; omega) (by rw [zTe ea]; omega)
