def SM (r : Int32) (s : zg_S) (r' : Int32) (t : zg_S) : Prop := r = r' ∧ RR s t
theorem SM.rf {σ τ : zg_S} {r : Int32} (h : RR σ τ) : SM r σ r τ := ⟨rfl, h⟩
theorem side_up {σ : zg_S} {q f p k : Nat} {v : Int32} (hq : 81 ≤ q ∧ q ≤ 176) (h : sideC p k) : zg_up σ q f v p k = σ p k := congrFun (zg_row_ne (by unfold sideC at h; omega)) k
theorem sidm_up {τ : zg_S} {i p k : Nat} {v : Int32} (h : sideM p k) : zg_up τ 1 i v p k = τ p k := congrFun (zg_row_ne (by unfold sideM at h; omega)) k
theorem bz_up {σ : zg_S} {p f : Nat} {g : Nat → Int32} {v : Int32} (h : BZ σ p g) (hp : 53 ≤ p) (i : Nat) (hi : i < 11) (h0 : i ≠ 0) (h1 : i ≠ 1) (hf : fm i = f) (o : gOK (upd g i v)) (c : gC (upd g i v)) (t : (upd g i v 2).toInt ≤ 9999) : BZ (zg_up σ p f v) p (upd g i v) := ⟨h.1.up i hi h0 hf, (txr_up h.2.1 h.2.2.1.2.2.1.2 (by omega) hp).st (STx.rf.up h1 (by omega)), o, c, t⟩
theorem bz_upS {σ : zg_S} {p : Nat} {g : Nat → Int32} {v : Int32} (h : BZ σ p g) (hp : 53 ≤ p) (k j : Nat) (hj : j < 4) (hk : k < 9) (o : gOK (upd g (11 + 4 * k + j) v)) : BZ (zg_up σ (p + 1 + 2 + k) j v) p (upd g (11 + 4 * k + j) v) := by
  refine ⟨h.1.upS k j hj, (txr_up h.2.1 h.2.2.1.2.2.1.2 (by omega) (by omega)).st (STx.rf.up (by omega) (by omega)), o, ?_, ?_⟩
  · unfold gC
    rw [pk_un (by omega), pk_un (by omega), pk_un (by omega), pk_un (by omega)]
    exact h.2.2.2.1
  · rw [pk_un (by omega)]
    exact h.2.2.2.2
theorem gOK.cl {g : Nat → Int32} {k j : Nat} {v : Int32} (o : gOK g) (hk : k < 9) (hj : j < 4) (h0 : 0 ≤ v.toInt) (hv : v.toInt ≤ [5, 11, 999, 99].getD j 0) : gOK (upd g (11 + 4 * k + j) v) := by
  refine o.tx (STx.rf.up (by omega) (by omega)) (gB_eq o.1 (fun i hi _ _ _ _ => pk_un (by omega))) (fun i hi => ?_)
  rw [pk_un (by omega)] at hi
  have b := o.2.1 i hi
  by_cases e : i = k
  · subst e
    unfold gSb
    match j, hj, hv with
    | 0, _, hv =>
      rw [show upd g (11 + 4 * i + 0) v (11 + 4 * i) = v from pk_us, pk_un (by omega), pk_un (by omega), pk_un (by omega)]
      exact ⟨⟨h0, hv⟩, b.2⟩
    | 1, _, hv =>
      rw [pk_un (by omega), pk_us, pk_un (by omega), pk_un (by omega)]
      exact ⟨b.1, ⟨h0, hv⟩, b.2.2⟩
    | 2, _, hv =>
      rw [pk_un (by omega), pk_un (by omega), pk_us, pk_un (by omega)]
      exact ⟨b.1, b.2.1, ⟨h0, hv⟩, b.2.2.2⟩
    | 3, _, hv =>
      rw [pk_un (by omega), pk_un (by omega), pk_un (by omega), pk_us]
      exact ⟨b.1, b.2.1, b.2.2.1, ⟨h0, hv⟩⟩
  · exact gSb_eq (fun j' hj' => pk_un (by omega)) b
/-- a cell of row 1 is written, and the same of the bazaar of now -/
theorem RR.cell {σ τ : zg_S} {k j : Nat} {v : Int32} (h : RR σ τ) (hk : k < 9) (hj : j < 4) (h0 : 0 ≤ v.toInt) (hv : v.toInt ≤ [5, 11, 999, 99].getD j 0) : RR (zg_up σ (154 + 2 + k) j v) (zg_up τ 1 (11 + 4 * k + j) v) := by
  refine h.now (fun p i hp => side_up (by omega) hp) (fun p i hp => sidm_up hp) ?_ ?_
  · rw [up_row rfl, pk_un (by omega)]
    exact Int.le_refl _
  · rw [up_row rfl]
    exact bz_upS h.1 (by decide) k j hj hk (h.1.2.2.1.cl hk hj h0 hv)
theorem RR.field {σ τ : zg_S} {i f : Nat} {v : Int32} (h : RR σ τ) (hi : i < 11) (h0 : i ≠ 0) (h1 : i ≠ 1) (hf : fm i = f) (o : gOK (upd (τ 1) i v)) (c : gC (upd (τ 1) i v)) (t : (upd (τ 1) i v 2).toInt ≤ 9999) : RR (zg_up σ 153 f v) (zg_up τ 1 i v) := by
  refine h.now (fun p i hp => side_up (by omega) hp) (fun p i hp => sidm_up hp) ?_ ?_
  · rw [up_row rfl, pk_un (by omega)]
    exact Int.le_refl _
  · rw [up_row rfl]
    exact bz_up h.1 (by decide) i hi h0 h1 hf o c t
theorem gC_un {g : Nat → Int32} {i : Nat} {v : Int32} (c : gC g) (h : i ≠ 2 ∧ i ≠ 3 ∧ i ≠ 4 ∧ i ≠ 5) : gC (upd g i v) := by
  unfold gC
  rw [pk_un (by omega), pk_un (by omega), pk_un (by omega), pk_un (by omega)]
  exact c
theorem r_becomes {a v : Int32} {τ : zg_S} {n : Nat} (ha : a.toInt = n) (hn : n < 3047) : f_X7_becomes a v τ = some (τ 1 n, zg_up τ 1 n v) := by
  unfold f_X7_becomes
  have e : a.toNatClampNeg = n := zTn (zTl ha) rfl
  rw [if_pos (zin_mk (by omega) (by omega)), e]
  rfl
theorem v_seed {σ τ : zg_S} (h : RR σ τ) (a : Int32) : z2 (f_X6_seed a σ) (f_X7_seed a τ) SM := by
  unfold f_X6_seed f_X7_seed
  refine z2_eR (r_becomes zt_6 (by decide)) ?_
  refine z2_lL (fun s q => z2_some ⟨h.f 6 (by decide), ?_⟩)
  rw [q]
  exact h.field (i := 6) (by decide) (by decide) (by decide) rfl (h.1.2.2.1.lo (Or.inr (Or.inr (Or.inr rfl)))) (gC_un h.1.2.2.2.1 (by decide)) (by rw [pk_un (by decide)]; exact h.1.2.2.2.2)
theorem cellN {a : Int32} {n j : Nat} (ha : a.toInt = n) (hn : n ≤ 8) (c : Int32) (hc : c.toInt = j) (hj : j ≤ 3) : ((11 + (4 * a)) + c).toInt = ((11 + 4 * n + j : Nat) : Int) := by
  have e11 := zt_11
  have e4 := zt_4
  rw [zTe (zTadd (zTadd (zTl zt_11) (zTmul (zTl zt_4) (zTs a) (by omega) (by omega)) (by omega) (by omega)) (zTs c) (by omega) (by omega))]
  omega
theorem v_turns {σ τ : zg_S} (h : RR σ τ) (a b : Int32) : z2 (f_X6_turns a b σ) (f_X7_turns a b τ) SM := by
  have e0 := zt_0
  have e5 := zt_5
  unfold f_X6_turns f_X7_turns
  refine z2_stall h (z2_pL rfl (z2_pR rfl (z2_some (SM.rf h)))) (fun n hn hk h8 => ?_)
  refine z2_nL one_ne (z2_nR one_ne ?_)
  refine z2_within (fun _ => z2_pL rfl (z2_pR rfl (z2_some (SM.rf h)))) (fun h1 h2 => ?_)
  refine z2_nL one_ne (z2_nR one_ne ?_)
  have en : a.toNatClampNeg = n := zTn (zTl hn) rfl
  refine z2_pL (zin_mk (by omega) (by omega)) ?_
  rw [en]
  have ec : (11 + (4 * a)).toInt = ((11 + 4 * n : Nat) : Int) := by
    have e11 := zt_11
    have e4 := zt_4
    rw [zTe (zTadd (zTl zt_11) (zTmul (zTl zt_4) (zTs a) (by omega) (by omega)) (by omega) (by omega))]
    omega
  refine z2_eR (r_becomes ec (by omega)) ?_
  refine z2_lL (fun y ey => z2_lL (fun s q => z2_some ⟨?_, ?_⟩))
  · rw [ey]
    exact h.s n 0 hk (by decide)
  · rw [q]
    exact h.cell (j := 0) (by omega) (by decide) (by omega) (by show b.toInt ≤ 5; omega)
theorem v_set {σ τ : zg_S} (h : RR σ τ) (a b v : Int32) : z2 (f_X6_set a b v σ) (f_X7_set a b v τ) SM := by
  have e0 := zt_0
  have e1 := zt_1
  have e2 := zt_2
  have e3 := zt_3
  have e11 := zt_11
  have e99 := zt_99
  have e999 := zt_999
  unfold f_X6_set f_X7_set
  refine z2_stall h (z2_pL rfl (z2_pR rfl (z2_some (SM.rf h)))) (fun n hn hk h8 => ?_)
  refine z2_nL one_ne (z2_nR one_ne ?_)
  have en : a.toNatClampNeg = n := zTn (zTl hn) rfl
  have zi : zin a 9 = true := zin_mk (by omega) (by omega)
  unfold B_X7_set_48
  refine z2_iL (fun hb => ?_) (fun hb1 => ?_)
  · subst hb
    refine z2_pL zi ?_
    rw [en]
    refine z2_eR (r_isIn1 τ (by decide)) (z2_nR one_ne (z2_pR rfl ?_))
    unfold f_X6_setPlace
    by_cases c : 0 ≤ v.toInt ∧ v.toInt ≤ 11
    · rw [c_within1 σ (by rw [e0, e11]; exact c)]
      refine z2_eR (r_isIn1 τ (by rw [e0, e11]; exact c)) (z2_nR one_ne ?_)
      refine z2_eR (r_becomes (cellN (j := 1) hn h8 1 zt_1 (by decide)) (by omega)) ?_
      refine z2_some ⟨h.s n 1 hk (by decide), h.cell (j := 1) (by omega) (by decide) c.1 (by show v.toInt ≤ 11; exact c.2)⟩
    · rw [c_within0 σ (by rw [e0, e11]; exact c)]
      exact z2_eR (r_isIn0 τ (by rw [e0, e11]; exact c)) (z2_pR rfl (z2_some (SM.rf h)))
  · refine z2_iL (fun hb => ?_) (fun hb2 => ?_)
    · subst hb
      refine z2_pL zi ?_
      rw [en]
      refine z2_eR (r_isIn1 τ (by decide)) (z2_nR one_ne (z2_nR hb1 (z2_pR rfl ?_)))
      unfold f_X6_setGoods
      by_cases c : 0 ≤ v.toInt ∧ v.toInt ≤ 999
      · rw [c_within1 σ (by rw [e0, e999]; exact c)]
        refine z2_eR (r_isIn1 τ (by rw [e0, e999]; exact c)) (z2_nR one_ne ?_)
        refine z2_eR (r_becomes (cellN (j := 2) hn h8 2 zt_2 (by decide)) (by omega)) ?_
        refine z2_some ⟨h.s n 2 hk (by decide), h.cell (j := 2) (by omega) (by decide) c.1 (by show v.toInt ≤ 999; exact c.2)⟩
      · rw [c_within0 σ (by rw [e0, e999]; exact c)]
        exact z2_eR (r_isIn0 τ (by rw [e0, e999]; exact c)) (z2_pR rfl (z2_some (SM.rf h)))
    · refine z2_iL (fun hb => ?_) (fun hb3 => ?_)
      · subst hb
        refine z2_pL zi ?_
        rw [en]
        refine z2_eR (r_isIn1 τ (by decide)) (z2_nR one_ne (z2_nR hb1 (z2_nR hb2 ?_)))
        unfold f_X6_setPay
        by_cases c : 0 ≤ v.toInt ∧ v.toInt ≤ 99
        · rw [c_within1 σ (by rw [e0, e99]; exact c)]
          refine z2_eR (r_isIn1 τ (by rw [e0, e99]; exact c)) (z2_nR one_ne ?_)
          refine z2_eR (r_becomes (cellN (j := 3) hn h8 3 zt_3 (by decide)) (by omega)) ?_
          refine z2_some ⟨h.s n 3 hk (by decide), h.cell (j := 3) (by omega) (by decide) c.1 (by show v.toInt ≤ 99; exact c.2)⟩
        · rw [c_within0 σ (by rw [e0, e99]; exact c)]
          exact z2_eR (r_isIn0 τ (by rw [e0, e99]; exact c)) (z2_pR rfl (z2_some (SM.rf h)))
      · have h1 := zne hb1
        have h2 := zne hb2
        have h3 := zne hb3
        exact z2_eR (r_isIn0 τ (by omega)) (z2_pR rfl (z2_some (SM.rf h)))
theorem zt_m9 : (9 : Int32).toInt = 9 := by decide
/-- FIRST, WIDTH, GUST, MODE -/
theorem gOK.wid {g : Nat → Int32} {v : Int32} (o : gOK g) (hv : 1 ≤ v.toInt ∧ v.toInt ≤ 6) : gOK (upd (upd g 8 v) 7 (sHeld (g 7) 0 (12 - v))) := by
  have e12 := zt_12
  have e := zTe (zTsub (zTl zt_12) (zTs v) (by omega) (by omega))
  have hh := sHeld_b (g 7) (12 - v) (by rw [e]; omega)
  rw [e] at hh
  refine o.tx ((STx.rf.up (by omega) (by omega)).up (by omega) (by omega)) ?_ (fun i hi => ?_)
  · obtain ⟨a, b, c, d, f, k⟩ := o.1
    unfold gB
    rw [pk_un (by decide), pk_un (by decide), pk_un (by decide), pk_un (by decide), pk_un (by decide), pk_us, pk_us, pk_un (by decide), pk_un (by decide), pk_un (by decide), pk_un (by decide)]
    exact ⟨a, b, hv, hh, f, k⟩
  · rw [pk_un (by omega), pk_un (by omega)] at hi
    exact gSb_eq (fun j hj => by rw [pk_un (by omega), pk_un (by omega)]) (o.2.1 i hi)
theorem gOK.gm {g : Nat → Int32} {i : Nat} {v : Int32} (o : gOK g) (h0 : 0 ≤ v.toInt) (hi : (i = 9 ∧ v.toInt ≤ 100) ∨ (i = 10 ∧ v.toInt ≤ 2)) : gOK (upd g i v) := by
  refine o.tx (STx.rf.up (by omega) (by omega)) ?_ (fun k hk => ?_)
  · obtain ⟨a, b, c, d, f, k⟩ := o.1
    unfold gB
    rcases hi with ⟨rfl, hi⟩ | ⟨rfl, hi⟩
    · rw [pk_un (by decide), pk_un (by decide), pk_un (by decide), pk_un (by decide), pk_us, pk_un (by decide)]
      exact ⟨a, b, c, d, ⟨h0, hi⟩, k⟩
    · rw [pk_un (by decide), pk_un (by decide), pk_un (by decide), pk_un (by decide), pk_un (by decide), pk_us]
      exact ⟨a, b, c, d, f, ⟨h0, hi⟩⟩
  · rw [pk_un (by omega)] at hk
    exact gSb_eq (fun j hj => pk_un (by omega)) (o.2.1 k hk)
theorem sHeld_in {a hi : Int32} (h0 : 0 ≤ a.toInt) (h1 : a.toInt ≤ hi.toInt) : sHeld a 0 hi = a := by
  have e0 := zt_0
  rw [sHeld_lo (nlt_i h1)]
  by_cases f : (0 : Int32) < a
  · rw [if_pos f]
  · rw [if_neg f]
    have := znlt f
    exact Int32.toInt_inj.mp (by omega)
theorem v_rule {σ τ : zg_S} (h : RR σ τ) (a v : Int32) : z2 (f_X6_rule a v σ) (f_X7_rule a v τ) SM := by
  have e0 := zt_0
  have e1 := zt_1
  have e2 := zt_2
  have e3 := zt_3
  have e6 := zt_6
  have e100 := zt_100
  have o := h.1.2.2.1
  have hC := h.1.2.2.2.1
  have h99 := h.1.2.2.2.2
  obtain ⟨_, _, h8, h7, h9, h10⟩ := id o.1
  have e12 := g12 o.1
  unfold f_X6_rule f_X7_rule B_X7_rule_24
  refine z2_iL (fun ha => ?_) (fun ha0 => ?_)
  · subst ha
    refine z2_eR (r_isIn1 τ (by decide)) (z2_nR one_ne (z2_nR (by decide) ?_))
    refine z2_eR (show f_X7_mostOf 0 τ = some (12 - τ 1 8, τ) from rfl) ?_
    unfold f_X6_ruleFirst
    rw [c_lastFirst h.1.1, zbd_s]
    by_cases c : 0 ≤ v.toInt ∧ v.toInt ≤ (12 - τ 1 8).toInt
    · rw [c_within1 σ (by rw [e0]; exact c), zbd_s, if_neg one_ne]
      refine z2_eR (r_isIn1 τ (by rw [e0]; exact c)) (z2_nR one_ne ?_)
      refine z2_eR (r_becomes (n := 7) (by decide) (by decide)) ?_
      have hr : zg_up τ 1 7 v 1 = upd (τ 1) 7 v := up_row rfl
      have hh := r_holds hr (by rw [pk_un (by decide)]; exact h8)
      rw [pk_us, pk_un (by decide), sHeld_in c.1 c.2] at hh
      refine z2_eR hh ?_
      refine z2_some ⟨h.f 7 (by decide), ?_⟩
      have hz : zg_up (zg_up τ 1 7 v) 1 7 v = zg_up τ 1 7 v := by
        funext p
        by_cases e : p = 1
        · subst e
          rw [up_row hr, upd_upd, hr]
        · exact zg_row_ne e
      rw [hz]
      exact h.field (i := 7) (by decide) (by decide) (by decide) rfl (o.first ⟨c.1, by rw [← e12]; exact c.2⟩) (gC_un hC (by decide)) (by rw [pk_un (by decide)]; exact h99)
    · rw [c_within0 σ (by rw [e0]; exact c), zbd_s, if_pos rfl]
      exact z2_eR (r_isIn0 τ (by rw [e0]; exact c)) (z2_pR rfl (z2_some (SM.rf h)))
  · refine z2_iL (fun ha => ?_) (fun ha1 => ?_)
    · subst ha
      refine z2_eR (r_isIn1 τ (by decide)) (z2_nR one_ne (z2_pR rfl ?_))
      refine z2_eR (show f_X7_mostOf 1 τ = some (6, τ) from rfl) ?_
      unfold f_X6_ruleWidth
      by_cases c : 1 ≤ v.toInt ∧ v.toInt ≤ 6
      · rw [c_within1 σ (by rw [e1, e6]; exact c), zbd_s, if_neg one_ne]
        refine z2_eR (r_isIn1 τ (by rw [e1, e6]; exact c)) (z2_nR one_ne ?_)
        refine z2_eR (r_becomes (n := 8) (by decide) (by decide)) ?_
        have hr : zg_up τ 1 8 v 1 = upd (τ 1) 8 v := up_row rfl
        have hh := r_holds hr (by rw [pk_us]; exact c)
        rw [pk_us, pk_un (by decide)] at hh
        refine z2_eR hh ?_
        have hE : EQB (zg_up σ 153 5 v) 153 (upd (τ 1) 8 v) := h.1.1.up 8 (by decide) (by decide) rfl
        have ew : f_X0_widen 153 v σ = some (0, zg_up (zg_up σ 153 5 v) 153 6 (sHeld (τ 1 7) 0 (12 - v))) := by
          unfold f_X0_widen
          show zbd (f_X0_lastFirst 153 (zg_up σ 153 5 v)) (fun r7 σ8 => zbd (f_X6_held (zg_up σ 153 5 v 153 6) 0 r7 σ8) (fun r14 σ15 => zlet (zg_up σ15 153 6 r14) (fun σ21 => some (0, σ21)))) = _
          rw [c_lastFirst hE, zbd_s, pk_us, c_held, zbd_s, show zg_up σ 153 5 v 153 6 = τ 1 7 from (hE.f 7 (by decide)).trans (pk_un (by decide))]
          rfl
        rw [ew, zbd_s]
        refine z2_some ⟨h.f 8 (by decide), ?_⟩
        have ok := o.wid c
        refine h.now (fun p k hp => (side_up (by decide) hp).trans (side_up (by decide) hp)) (fun p k hp => (sidm_up hp).trans (sidm_up hp)) ?_ ?_
        · rw [up_row hr, pk_un (by decide), pk_un (by decide)]
          exact Int.le_refl _
        · rw [up_row hr]
          refine ⟨hE.up 7 (by decide) (by decide) rfl, ?_, ok, gC_un (gC_un hC (by decide)) (by decide), by rw [pk_un (by decide), pk_un (by decide)]; exact h99⟩
          exact (txr_up (txr_up h.1.2.1 o.2.2.1.2 (by decide) (by decide)) o.2.2.1.2 (by decide) (by decide)).st ((STx.rf.up (by decide) (by decide)).up (by decide) (by decide))
      · rw [c_within0 σ (by rw [e1, e6]; exact c), zbd_s, if_pos rfl]
        exact z2_eR (r_isIn0 τ (by rw [e1, e6]; exact c)) (z2_pR rfl (z2_some (SM.rf h)))
    · have gm : ∀ (i f : Nat) (hi : i = 9 ∨ i = 10) (a' mx : Int32), fm i = f → (7 + a').toInt = i → (i = 9 ∧ mx = 100 ∨ i = 10 ∧ mx = 2) → z2 (zbd (f_X6_within v 0 mx σ) (fun r1 σ2 => if r1 = 0 then some (-1000000001, σ2) else zlet (zg_up σ2 153 f v) (fun σ10 => some (σ2 153 f, σ10)))) (zbd (f_X7_isIn (Int32.toInt64 v) (Int32.toInt64 0) (Int32.toInt64 mx) τ) (fun r8 σ9 => if r8 = 0 then some (-1000000001, σ9) else zbd (f_X7_becomes (7 + a') v σ9) (fun r17 σ18 => zbd (f_X7_holds σ18) (fun r26 σ27 => some (r17, σ27))))) SM := fun i f hi a' mx hf hia hm => by
        refine z2_within (fun _ => z2_pL rfl (z2_pR rfl (z2_some (SM.rf h)))) (fun h1 h2 => z2_nL one_ne (z2_nR one_ne ?_))
        rw [e0] at h1
        have hb : (i = 9 ∧ v.toInt ≤ 100) ∨ (i = 10 ∧ v.toInt ≤ 2) := by
          rcases hm with ⟨h9, hm⟩ | ⟨h9, hm⟩
          · exact Or.inl ⟨h9, by rw [hm, e100] at h2; exact h2⟩
          · exact Or.inr ⟨h9, by rw [hm, e2] at h2; exact h2⟩
        refine z2_eR (r_becomes hia (by omega)) ?_
        have hr : zg_up τ 1 i v 1 = upd (τ 1) i v := up_row rfl
        have hh := r_holds hr (by rw [pk_un (by omega)]; exact h8)
        rw [pk_un (by omega), pk_un (by omega), sHeld_in h7.1 (by rw [e12]; exact h7.2)] at hh
        refine z2_eR hh (z2_lL (fun s q => z2_some ⟨?_, ?_⟩))
        · rw [← hf]
          exact h.f i (by omega)
        · have hz : zg_up (zg_up τ 1 i v) 1 7 (τ 1 7) = zg_up τ 1 i v := by
            funext p
            by_cases e : p = 1
            · subst e
              rw [up_row hr, hr]
              exact upd_self (pk_un (by omega)).symm
            · exact zg_row_ne e
          rw [q, hz]
          exact h.field (i := i) (by omega) (by omega) (by omega) hf (o.gm h1 hb) (gC_un hC (by omega)) (by rw [pk_un (by omega)]; exact h99)
      refine z2_iL (fun ha => ?_) (fun ha2 => ?_)
      · subst ha
        refine z2_eR (r_isIn1 τ (by decide)) (z2_nR one_ne (z2_nR (by decide) ?_))
        refine z2_eR (show f_X7_mostOf 2 τ = some (100, τ) from rfl) ?_
        have := gm 9 8 (Or.inl rfl) 2 100 rfl (by decide) (Or.inl ⟨rfl, rfl⟩)
        unfold f_X6_ruleGust
        refine z2_mono ?_ (fun _ _ _ _ q => q)
        obtain ⟨r, s, r', t, x1, x2, x3⟩ := this
        exact ⟨r, s, r', t, by rw [x1]; rfl, x2, x3⟩
      · refine z2_iL (fun ha => ?_) (fun ha3 => ?_)
        · subst ha
          refine z2_eR (r_isIn1 τ (by decide)) (z2_nR one_ne (z2_nR (by decide) ?_))
          refine z2_eR (show f_X7_mostOf 3 τ = some (2, τ) from rfl) ?_
          have := gm 10 9 (Or.inr rfl) 3 2 rfl (by decide) (Or.inr ⟨rfl, rfl⟩)
          unfold f_X6_ruleMode
          obtain ⟨r, s, r', t, x1, x2, x3⟩ := this
          exact ⟨r, s, r', t, by rw [x1]; rfl, x2, x3⟩
        · have g0 := zne ha0
          have g1 := zne ha1
          have g2 := zne ha2
          have g3 := zne ha3
          exact z2_eR (r_isIn0 τ (by omega)) (z2_pR rfl (z2_some (SM.rf h)))
