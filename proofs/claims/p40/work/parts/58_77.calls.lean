section
def SM (r : Int32) (s : zg_S) (r' : Int32) (t : zg_S) : Prop := r = r' ∧ RR s t
theorem SM.rf {σ τ : zg_S} {r : Int32} (h : RR σ τ) : SM r σ r τ := ⟨rfl, h⟩
theorem side_up {σ : zg_S} {q f p k : Nat} {v : Int32} (hq : 81 ≤ q ∧ q ≤ 176) (h : sideC p k) : zg_up σ q f v p k = σ p k := congrFun (zg_row_ne (by unfold sideC at h; omega)) k
theorem sidm_up {τ : zg_S} {i p k : Nat} {v : Int32} (h : sideM p k) : zg_up τ 1 i v p k = τ p k := congrFun (zg_row_ne (by unfold sideM at h; omega)) k
theorem bz_up {σ : zg_S} {p f : Nat} {g : Nat → Int32} {v : Int32} (h : BZ σ p g) (hp : 53 ≤ p) (i : Nat) (hi : i < 11) (h0 : i ≠ 0) (h1 : i ≠ 1) (hf : fm i = f) (o : gOK (upd g i v)) (c : gC (upd g i v)) (t : (upd g i v 2).toInt ≤ 9999) : BZ (zg_up σ p f v) p (upd g i v) := ⟨h.1.up i hi h0 hf, (txr_up h.2.1 h.2.2.1.2.2.1.2 (by omega) hp).st (STx.rf.up h1 (by omega)), o, c, t⟩
theorem bz_upS {σ : zg_S} {p : Nat} {g : Nat → Int32} {v : Int32} (h : BZ σ p g) (hp : 53 ≤ p) (k j : Nat) (hj : j < 4) (hk : k < 9) (o : gOK (upd g (11 + 4 * k + j) v)) : BZ (zg_up σ (p + 1 + 2 + k) j v) p (upd g (11 + 4 * k + j) v) := by
  refine ⟨h.1.upS k j hj, (txr_up h.2.1 h.2.2.1.2.2.1.2 (by omega) (by omega)).st (STx.rf.up (by omega) (by omega)), o, ?_, ?_⟩
  · unfold gC
    rw [pk_un (by omega), pk_un (by omega), pk_un (by omega), pk_un (by omega)]
    exact h.2.2.2.1
  · rw [pk_un (by omega)]
    exact h.2.2.2.2
theorem gOK.cl {g : Nat → Int32} {k j : Nat} {v : Int32} (o : gOK g) (hk : k < 9) (hj : j < 4) (h0 : 0 ≤ v.toInt) (hv : v.toInt ≤ [5, 11, 999, 99].getD j 0) : gOK (upd g (11 + 4 * k + j) v) := by
  refine o.tx (STx.rf.up (by omega) (by omega)) (gB_eq o.1 (fun i hi _ _ _ _ => pk_un (by omega))) (fun i hi => ?_)
  rw [pk_un (by omega)] at hi
  have b := o.2.1 i hi
  by_cases e : i = k
  · subst e
    unfold gSb
    match j, hj, hv with
    | 0, _, hv =>
      rw [show upd g (11 + 4 * i + 0) v (11 + 4 * i) = v from pk_us, pk_un (by omega), pk_un (by omega), pk_un (by omega)]
      exact ⟨⟨h0, hv⟩, b.2⟩
    | 1, _, hv =>
      rw [pk_un (by omega), pk_us, pk_un (by omega), pk_un (by omega)]
      exact ⟨b.1, ⟨h0, hv⟩, b.2.2⟩
    | 2, _, hv =>
      rw [pk_un (by omega), pk_un (by omega), pk_us, pk_un (by omega)]
      exact ⟨b.1, b.2.1, ⟨h0, hv⟩, b.2.2.2⟩
    | 3, _, hv =>
      rw [pk_un (by omega), pk_un (by omega), pk_un (by omega), pk_us]
      exact ⟨b.1, b.2.1, b.2.2.1, ⟨h0, hv⟩⟩
  · exact gSb_eq (fun j' hj' => pk_un (by omega)) b
/-- a cell of row 1 is written, and the same of the bazaar of now -/
theorem RR.cell {σ τ : zg_S} {k j : Nat} {v : Int32} (h : RR σ τ) (hk : k < 9) (hj : j < 4) (h0 : 0 ≤ v.toInt) (hv : v.toInt ≤ [5, 11, 999, 99].getD j 0) : RR (zg_up σ (154 + 2 + k) j v) (zg_up τ 1 (11 + 4 * k + j) v) := by
  refine h.now (fun p i hp => side_up (by omega) hp) (fun p i hp => sidm_up hp) ?_ ?_
  · rw [up_row rfl, pk_un (by omega)]
    exact Int.le_refl _
  · rw [up_row rfl]
    exact bz_upS h.1 (by decide) k j hj hk (h.1.2.2.1.cl hk hj h0 hv)
theorem RR.field {σ τ : zg_S} {i f : Nat} {v : Int32} (h : RR σ τ) (hi : i < 11) (h0 : i ≠ 0) (h1 : i ≠ 1) (hf : fm i = f) (o : gOK (upd (τ 1) i v)) (c : gC (upd (τ 1) i v)) (t : (upd (τ 1) i v 2).toInt ≤ 9999) : RR (zg_up σ 153 f v) (zg_up τ 1 i v) := by
  refine h.now (fun p i hp => side_up (by omega) hp) (fun p i hp => sidm_up hp) ?_ ?_
  · rw [up_row rfl, pk_un (by omega)]
    exact Int.le_refl _
  · rw [up_row rfl]
    exact bz_up h.1 (by decide) i hi h0 h1 hf o c t
theorem gC_un {g : Nat → Int32} {i : Nat} {v : Int32} (c : gC g) (h : i ≠ 2 ∧ i ≠ 3 ∧ i ≠ 4 ∧ i ≠ 5) : gC (upd g i v) := by
  unfold gC
  rw [pk_un (by omega), pk_un (by omega), pk_un (by omega), pk_un (by omega)]
  exact c
theorem r_becomes {a v : Int32} {τ : zg_S} {n : Nat} (ha : a.toInt = n) (hn : n < 3047) : f_X7_becomes a v τ = some (τ 1 n, zg_up τ 1 n v) := by
  unfold f_X7_becomes
  have e : a.toNatClampNeg = n := zTn (zTl ha) rfl
  rw [if_pos (zin_mk (by omega) (by omega)), e]
  rfl
theorem v_seed {σ τ : zg_S} (h : RR σ τ) (a : Int32) : z2 (f_X6_seed a σ) (f_X7_seed a τ) SM := by
  unfold f_X6_seed f_X7_seed
  refine z2_eR (r_becomes zt_6 (by decide)) ?_
  refine z2_lL (fun s q => z2_some ⟨h.f 6 (by decide), ?_⟩)
  rw [q]
  exact h.field (i := 6) (by decide) (by decide) (by decide) rfl (h.1.2.2.1.lo (Or.inr (Or.inr (Or.inr rfl)))) (gC_un h.1.2.2.2.1 (by decide)) (by rw [pk_un (by decide)]; exact h.1.2.2.2.2)
theorem cellN {a : Int32} {n j : Nat} (ha : a.toInt = n) (hn : n ≤ 8) (c : Int32) (hc : c.toInt = j) (hj : j ≤ 3) : ((11 + (4 * a)) + c).toInt = ((11 + 4 * n + j : Nat) : Int) := by
  have e11 := zt_11
  have e4 := zt_4
  rw [zTe (zTadd (zTadd (zTl zt_11) (zTmul (zTl zt_4) (zTs a) (by omega) (by omega)) (by omega) (by omega)) (zTs c) (by omega) (by omega))]
  omega
theorem v_turns {σ τ : zg_S} (h : RR σ τ) (a b : Int32) : z2 (f_X6_turns a b σ) (f_X7_turns a b τ) SM := by
  have e0 := zt_0
  have e5 := zt_5
  unfold f_X6_turns f_X7_turns
  refine z2_stall h (z2_pL rfl (z2_pR rfl (z2_some (SM.rf h)))) (fun n hn hk h8 => ?_)
  refine z2_nL one_ne (z2_nR one_ne ?_)
  refine z2_within (fun _ => z2_pL rfl (z2_pR rfl (z2_some (SM.rf h)))) (fun h1 h2 => ?_)
  refine z2_nL one_ne (z2_nR one_ne ?_)
  have en : a.toNatClampNeg = n := zTn (zTl hn) rfl
  refine z2_pL (zin_mk (by omega) (by omega)) ?_
  rw [en]
  have ec : (11 + (4 * a)).toInt = ((11 + 4 * n : Nat) : Int) := by
    have e11 := zt_11
    have e4 := zt_4
    rw [zTe (zTadd (zTl zt_11) (zTmul (zTl zt_4) (zTs a) (by omega) (by omega)) (by omega) (by omega))]
    omega
  refine z2_eR (r_becomes ec (by omega)) ?_
  refine z2_lL (fun y ey => z2_lL (fun s q => z2_some ⟨?_, ?_⟩))
  · rw [ey]
    exact h.s n 0 hk (by decide)
  · rw [q]
    exact h.cell (j := 0) (by omega) (by decide) (by omega) (by show b.toInt ≤ 5; omega)
theorem v_set {σ τ : zg_S} (h : RR σ τ) (a b v : Int32) : z2 (f_X6_set a b v σ) (f_X7_set a b v τ) SM := by
  have e0 := zt_0
  have e1 := zt_1
  have e2 := zt_2
  have e3 := zt_3
  have e11 := zt_11
  have e99 := zt_99
  have e999 := zt_999
  unfold f_X6_set f_X7_set
  refine z2_stall h (z2_pL rfl (z2_pR rfl (z2_some (SM.rf h)))) (fun n hn hk h8 => ?_)
  refine z2_nL one_ne (z2_nR one_ne ?_)
  have en : a.toNatClampNeg = n := zTn (zTl hn) rfl
  have zi : zin a 9 = true := zin_mk (by omega) (by omega)
  unfold B_X7_set_48
  refine z2_iL (fun hb => ?_) (fun hb1 => ?_)
  · subst hb
    refine z2_pL zi ?_
    rw [en]
    refine z2_eR (r_isIn1 τ (by decide)) (z2_nR one_ne (z2_pR rfl ?_))
    unfold f_X6_setPlace
    by_cases c : 0 ≤ v.toInt ∧ v.toInt ≤ 11
    · rw [c_within1 σ (by rw [e0, e11]; exact c)]
      refine z2_eR (r_isIn1 τ (by rw [e0, e11]; exact c)) (z2_nR one_ne ?_)
      refine z2_eR (r_becomes (cellN (j := 1) hn h8 1 zt_1 (by decide)) (by omega)) ?_
      refine z2_some ⟨h.s n 1 hk (by decide), h.cell (j := 1) (by omega) (by decide) c.1 (by show v.toInt ≤ 11; exact c.2)⟩
    · rw [c_within0 σ (by rw [e0, e11]; exact c)]
      exact z2_eR (r_isIn0 τ (by rw [e0, e11]; exact c)) (z2_pR rfl (z2_some (SM.rf h)))
  · refine z2_iL (fun hb => ?_) (fun hb2 => ?_)
    · subst hb
      refine z2_pL zi ?_
      rw [en]
      refine z2_eR (r_isIn1 τ (by decide)) (z2_nR one_ne (z2_nR hb1 (z2_pR rfl ?_)))
      unfold f_X6_setGoods
      by_cases c : 0 ≤ v.toInt ∧ v.toInt ≤ 999
      · rw [c_within1 σ (by rw [e0, e999]; exact c)]
        refine z2_eR (r_isIn1 τ (by rw [e0, e999]; exact c)) (z2_nR one_ne ?_)
        refine z2_eR (r_becomes (cellN (j := 2) hn h8 2 zt_2 (by decide)) (by omega)) ?_
        refine z2_some ⟨h.s n 2 hk (by decide), h.cell (j := 2) (by omega) (by decide) c.1 (by show v.toInt ≤ 999; exact c.2)⟩
      · rw [c_within0 σ (by rw [e0, e999]; exact c)]
        exact z2_eR (r_isIn0 τ (by rw [e0, e999]; exact c)) (z2_pR rfl (z2_some (SM.rf h)))
    · refine z2_iL (fun hb => ?_) (fun hb3 => ?_)
      · subst hb
        refine z2_pL zi ?_
        rw [en]
        refine z2_eR (r_isIn1 τ (by decide)) (z2_nR one_ne (z2_nR hb1 (z2_nR hb2 ?_)))
        unfold f_X6_setPay
        by_cases c : 0 ≤ v.toInt ∧ v.toInt ≤ 99
        · rw [c_within1 σ (by rw [e0, e99]; exact c)]
          refine z2_eR (r_isIn1 τ (by rw [e0, e99]; exact c)) (z2_nR one_ne ?_)
          refine z2_eR (r_becomes (cellN (j := 3) hn h8 3 zt_3 (by decide)) (by omega)) ?_
          refine z2_some ⟨h.s n 3 hk (by decide), h.cell (j := 3) (by omega) (by decide) c.1 (by show v.toInt ≤ 99; exact c.2)⟩
        · rw [c_within0 σ (by rw [e0, e99]; exact c)]
          exact z2_eR (r_isIn0 τ (by rw [e0, e99]; exact c)) (z2_pR rfl (z2_some (SM.rf h)))
      · have h1 := zne hb1
        have h2 := zne hb2
        have h3 := zne hb3
        exact z2_eR (r_isIn0 τ (by omega)) (z2_pR rfl (z2_some (SM.rf h)))
theorem zt_m9 : (9 : Int32).toInt = 9 := by decide
/-- FIRST, WIDTH, GUST, MODE -/
theorem gOK.wid {g : Nat → Int32} {v : Int32} (o : gOK g) (hv : 1 ≤ v.toInt ∧ v.toInt ≤ 6) : gOK (upd (upd g 8 v) 7 (sHeld (g 7) 0 (12 - v))) := by
  have e12 := zt_12
  have e := zTe (zTsub (zTl zt_12) (zTs v) (by omega) (by omega))
  have hh := sHeld_b (g 7) (12 - v) (by rw [e]; omega)
  rw [e] at hh
  refine o.tx ((STx.rf.up (by omega) (by omega)).up (by omega) (by omega)) ?_ (fun i hi => ?_)
  · obtain ⟨a, b, c, d, f, k⟩ := o.1
    unfold gB
    rw [pk_un (by decide), pk_un (by decide), pk_un (by decide), pk_un (by decide), pk_un (by decide), pk_us, pk_us, pk_un (by decide), pk_un (by decide), pk_un (by decide), pk_un (by decide)]
    exact ⟨a, b, hv, hh, f, k⟩
  · rw [pk_un (by omega), pk_un (by omega)] at hi
    exact gSb_eq (fun j hj => by rw [pk_un (by omega), pk_un (by omega)]) (o.2.1 i hi)
theorem gOK.gm {g : Nat → Int32} {i : Nat} {v : Int32} (o : gOK g) (h0 : 0 ≤ v.toInt) (hi : (i = 9 ∧ v.toInt ≤ 100) ∨ (i = 10 ∧ v.toInt ≤ 2)) : gOK (upd g i v) := by
  refine o.tx (STx.rf.up (by omega) (by omega)) ?_ (fun k hk => ?_)
  · obtain ⟨a, b, c, d, f, k⟩ := o.1
    unfold gB
    rcases hi with ⟨rfl, hi⟩ | ⟨rfl, hi⟩
    · rw [pk_un (by decide), pk_un (by decide), pk_un (by decide), pk_un (by decide), pk_us, pk_un (by decide)]
      exact ⟨a, b, c, d, ⟨h0, hi⟩, k⟩
    · rw [pk_un (by decide), pk_un (by decide), pk_un (by decide), pk_un (by decide), pk_un (by decide), pk_us]
      exact ⟨a, b, c, d, f, ⟨h0, hi⟩⟩
  · rw [pk_un (by omega)] at hk
    exact gSb_eq (fun j hj => pk_un (by omega)) (o.2.1 k hk)
theorem sHeld_in {a hi : Int32} (h0 : 0 ≤ a.toInt) (h1 : a.toInt ≤ hi.toInt) : sHeld a 0 hi = a := by
  have e0 := zt_0
  rw [sHeld_lo (nlt_i h1)]
  by_cases f : (0 : Int32) < a
  · rw [if_pos f]
  · rw [if_neg f]
    have := znlt f
    exact Int32.toInt_inj.mp (by omega)
theorem v_rule {σ τ : zg_S} (h : RR σ τ) (a v : Int32) : z2 (f_X6_rule a v σ) (f_X7_rule a v τ) SM := by
  have e0 := zt_0
  have e1 := zt_1
  have e2 := zt_2
  have e3 := zt_3
  have e6 := zt_6
  have e100 := zt_100
  have o := h.1.2.2.1
  have hC := h.1.2.2.2.1
  have h99 := h.1.2.2.2.2
  obtain ⟨_, _, h8, h7, h9, h10⟩ := id o.1
  have e12 := g12 o.1
  unfold f_X6_rule f_X7_rule B_X7_rule_24
  refine z2_iL (fun ha => ?_) (fun ha0 => ?_)
  · subst ha
    refine z2_eR (r_isIn1 τ (by decide)) (z2_nR one_ne (z2_nR (by decide) ?_))
    refine z2_eR (show f_X7_mostOf 0 τ = some (12 - τ 1 8, τ) from rfl) ?_
    unfold f_X6_ruleFirst
    rw [c_lastFirst h.1.1, zbd_s]
    by_cases c : 0 ≤ v.toInt ∧ v.toInt ≤ (12 - τ 1 8).toInt
    · rw [c_within1 σ (by rw [e0]; exact c), zbd_s, if_neg one_ne]
      refine z2_eR (r_isIn1 τ (by rw [e0]; exact c)) (z2_nR one_ne ?_)
      refine z2_eR (r_becomes (n := 7) (by decide) (by decide)) ?_
      have hr : zg_up τ 1 7 v 1 = upd (τ 1) 7 v := up_row rfl
      have hh := r_holds hr (by rw [pk_un (by decide)]; exact h8)
      rw [pk_us, pk_un (by decide), sHeld_in c.1 c.2] at hh
      refine z2_eR hh ?_
      refine z2_some ⟨h.f 7 (by decide), ?_⟩
      have hz : zg_up (zg_up τ 1 7 v) 1 7 v = zg_up τ 1 7 v := by
        funext p
        by_cases e : p = 1
        · subst e
          rw [up_row hr, upd_upd, hr]
        · exact zg_row_ne e
      rw [hz]
      exact h.field (i := 7) (by decide) (by decide) (by decide) rfl (o.first ⟨c.1, by rw [← e12]; exact c.2⟩) (gC_un hC (by decide)) (by rw [pk_un (by decide)]; exact h99)
    · rw [c_within0 σ (by rw [e0]; exact c), zbd_s, if_pos rfl]
      exact z2_eR (r_isIn0 τ (by rw [e0]; exact c)) (z2_pR rfl (z2_some (SM.rf h)))
  · refine z2_iL (fun ha => ?_) (fun ha1 => ?_)
    · subst ha
      refine z2_eR (r_isIn1 τ (by decide)) (z2_nR one_ne (z2_pR rfl ?_))
      refine z2_eR (show f_X7_mostOf 1 τ = some (6, τ) from rfl) ?_
      unfold f_X6_ruleWidth
      by_cases c : 1 ≤ v.toInt ∧ v.toInt ≤ 6
      · rw [c_within1 σ (by rw [e1, e6]; exact c), zbd_s, if_neg one_ne]
        refine z2_eR (r_isIn1 τ (by rw [e1, e6]; exact c)) (z2_nR one_ne ?_)
        refine z2_eR (r_becomes (n := 8) (by decide) (by decide)) ?_
        have hr : zg_up τ 1 8 v 1 = upd (τ 1) 8 v := up_row rfl
        have hh := r_holds hr (by rw [pk_us]; exact c)
        rw [pk_us, pk_un (by decide)] at hh
        refine z2_eR hh ?_
        have hE : EQB (zg_up σ 153 5 v) 153 (upd (τ 1) 8 v) := h.1.1.up 8 (by decide) (by decide) rfl
        have ew : f_X0_widen 153 v σ = some (0, zg_up (zg_up σ 153 5 v) 153 6 (sHeld (τ 1 7) 0 (12 - v))) := by
          unfold f_X0_widen
          show zbd (f_X0_lastFirst 153 (zg_up σ 153 5 v)) (fun r7 σ8 => zbd (f_X6_held (zg_up σ 153 5 v 153 6) 0 r7 σ8) (fun r14 σ15 => zlet (zg_up σ15 153 6 r14) (fun σ21 => some (0, σ21)))) = _
          rw [c_lastFirst hE, zbd_s, pk_us, c_held, zbd_s, show zg_up σ 153 5 v 153 6 = τ 1 7 from (hE.f 7 (by decide)).trans (pk_un (by decide))]
          rfl
        rw [ew, zbd_s]
        refine z2_some ⟨h.f 8 (by decide), ?_⟩
        have ok := o.wid c
        refine h.now (fun p k hp => (side_up (by decide) hp).trans (side_up (by decide) hp)) (fun p k hp => (sidm_up hp).trans (sidm_up hp)) ?_ ?_
        · rw [up_row hr, pk_un (by decide), pk_un (by decide)]
          exact Int.le_refl _
        · rw [up_row hr]
          refine ⟨hE.up 7 (by decide) (by decide) rfl, ?_, ok, gC_un (gC_un hC (by decide)) (by decide), by rw [pk_un (by decide), pk_un (by decide)]; exact h99⟩
          exact (txr_up (txr_up h.1.2.1 o.2.2.1.2 (by decide) (by decide)) o.2.2.1.2 (by decide) (by decide)).st ((STx.rf.up (by decide) (by decide)).up (by decide) (by decide))
      · rw [c_within0 σ (by rw [e1, e6]; exact c), zbd_s, if_pos rfl]
        exact z2_eR (r_isIn0 τ (by rw [e1, e6]; exact c)) (z2_pR rfl (z2_some (SM.rf h)))
    · have gm : ∀ (i f : Nat) (hi : i = 9 ∨ i = 10) (a' mx : Int32), fm i = f → (7 + a').toInt = i → (i = 9 ∧ mx = 100 ∨ i = 10 ∧ mx = 2) → z2 (zbd (f_X6_within v 0 mx σ) (fun r1 σ2 => if r1 = 0 then some (-1000000001, σ2) else zlet (zg_up σ2 153 f v) (fun σ10 => some (σ2 153 f, σ10)))) (zbd (f_X7_isIn (Int32.toInt64 v) (Int32.toInt64 0) (Int32.toInt64 mx) τ) (fun r8 σ9 => if r8 = 0 then some (-1000000001, σ9) else zbd (f_X7_becomes (7 + a') v σ9) (fun r17 σ18 => zbd (f_X7_holds σ18) (fun r26 σ27 => some (r17, σ27))))) SM := fun i f hi a' mx hf hia hm => by
        refine z2_within (fun _ => z2_pL rfl (z2_pR rfl (z2_some (SM.rf h)))) (fun h1 h2 => z2_nL one_ne (z2_nR one_ne ?_))
        rw [e0] at h1
        have hb : (i = 9 ∧ v.toInt ≤ 100) ∨ (i = 10 ∧ v.toInt ≤ 2) := by
          rcases hm with ⟨h9, hm⟩ | ⟨h9, hm⟩
          · exact Or.inl ⟨h9, by rw [hm, e100] at h2; exact h2⟩
          · exact Or.inr ⟨h9, by rw [hm, e2] at h2; exact h2⟩
        refine z2_eR (r_becomes hia (by omega)) ?_
        have hr : zg_up τ 1 i v 1 = upd (τ 1) i v := up_row rfl
        have hh := r_holds hr (by rw [pk_un (by omega)]; exact h8)
        rw [pk_un (by omega), pk_un (by omega), sHeld_in h7.1 (by rw [e12]; exact h7.2)] at hh
        refine z2_eR hh (z2_lL (fun s q => z2_some ⟨?_, ?_⟩))
        · rw [← hf]
          exact h.f i (by omega)
        · have hz : zg_up (zg_up τ 1 i v) 1 7 (τ 1 7) = zg_up τ 1 i v := by
            funext p
            by_cases e : p = 1
            · subst e
              rw [up_row hr, hr]
              exact upd_self (pk_un (by omega)).symm
            · exact zg_row_ne e
          rw [q, hz]
          exact h.field (i := i) (by omega) (by omega) (by omega) hf (o.gm h1 hb) (gC_un hC (by omega)) (by rw [pk_un (by omega)]; exact h99)
      refine z2_iL (fun ha => ?_) (fun ha2 => ?_)
      · subst ha
        refine z2_eR (r_isIn1 τ (by decide)) (z2_nR one_ne (z2_nR (by decide) ?_))
        refine z2_eR (show f_X7_mostOf 2 τ = some (100, τ) from rfl) ?_
        have := gm 9 8 (Or.inl rfl) 2 100 rfl (by decide) (Or.inl ⟨rfl, rfl⟩)
        unfold f_X6_ruleGust
        refine z2_mono ?_ (fun _ _ _ _ q => q)
        obtain ⟨r, s, r', t, x1, x2, x3⟩ := this
        exact ⟨r, s, r', t, by rw [x1]; rfl, x2, x3⟩
      · refine z2_iL (fun ha => ?_) (fun ha3 => ?_)
        · subst ha
          refine z2_eR (r_isIn1 τ (by decide)) (z2_nR one_ne (z2_nR (by decide) ?_))
          refine z2_eR (show f_X7_mostOf 3 τ = some (2, τ) from rfl) ?_
          have := gm 10 9 (Or.inr rfl) 3 2 rfl (by decide) (Or.inr ⟨rfl, rfl⟩)
          unfold f_X6_ruleMode
          obtain ⟨r, s, r', t, x1, x2, x3⟩ := this
          exact ⟨r, s, r', t, by rw [x1]; rfl, x2, x3⟩
        · have g0 := zne ha0
          have g1 := zne ha1
          have g2 := zne ha2
          have g3 := zne ha3
          exact z2_eR (r_isIn0 τ (by omega)) (z2_pR rfl (z2_some (SM.rf h)))
end
section
/-- calls that change nothing that counts -/
theorem ro {o o' : Option (Int32 × zg_S)} {W W' : Nat → Nat → Prop} {σ τ : zg_S} (h : RR σ τ) (hz : z2 o o' (fun r _ r' _ => r = r')) (hw : zw W σ o) (hw' : zw W' τ o') (hW : ∀ p k, W p k → WS p k) (hW' : ∀ p k, W' p k → p = 14 ∨ p = 15) : z2 o o' SM := by
  refine z2_mono (z2_w hz hw hw') (fun r s r' t q => ⟨q.1, ?_⟩)
  obtain ⟨_, a, b⟩ := q
  refine h.same (fun p k hp => a p k (fun z => ?_)) (fun p k h1 h2 => a p k (fun z => ?_)) (fun p k hp => b p k (fun z => ?_)) (funext (fun k => b 1 k (fun z => ?_)))
  · have := hW p k z
    unfold WS at this
    unfold sideC at hp
    omega
  · have := hW p k z
    unfold WS at this
    omega
  · have := hW' p k z
    unfold sideM at hp
    omega
  · have := hW' 1 k z
    omega
theorem W0 {W : Nat → Nat → Prop} (h : ∀ p k, ¬ W p k) : ∀ p k, W p k → WS p k := fun p k z => absurd z (h p k)
theorem W1 {W : Nat → Nat → Prop} (h : ∀ p k, ¬ W p k) : ∀ p k, W p k → p = 14 ∨ p = 15 := fun p k z => absurd z (h p k)
theorem c_worth (q : Nat) (σ : zg_S) : f_X4_worth q σ = some (sWth (σ q 0) (σ q 3), σ) := by
  unfold f_X4_worth sWth
  by_cases h1 : σ q 0 = 1
  · rw [if_pos h1, if_pos h1]
  rw [if_neg h1, if_neg h1]
  by_cases h2 : σ q 0 = 2
  · rw [if_pos h2, if_pos h2]
  rw [if_neg h2, if_neg h2]
  by_cases h3 : σ q 0 = 3
  · rw [if_pos h3, if_pos h3]
  rw [if_neg h3, if_neg h3]
  by_cases h4 : σ q 0 = 4
  · rw [if_pos h4, if_pos h4]
  rw [if_neg h4, if_neg h4]
  by_cases h5 : σ q 0 = 5
  · rw [if_pos h5, if_pos h5]
  rw [if_neg h5, if_neg h5]
theorem zt_91 : (91 : Int32).toInt = 91 := by decide
theorem r_worth {a : Int32} {τ : zg_S} {g : Nat → Int32} {n : Nat} (h1 : τ 1 = g) (ha : a.toInt = n) (hn : n ≤ 8) (hp : 0 ≤ (g (11 + 4 * n + 3)).toInt ∧ (g (11 + 4 * n + 3)).toInt ≤ 99) : f_X7_worth a τ = some (sWth (g (11 + 4 * n)) (g (11 + 4 * n + 3)), τ) := by
  have e8 := zt_8
  have e99 := zt_99
  have e91 := zt_91
  unfold f_X7_worth sWth
  rw [r_of h1 ha hn zt_3 (by decide), zbd_s, r_of h1 ha hn zt_0 (by decide), zbd_s]
  by_cases h1 : g (11 + 4 * n) = 1
  · rw [if_pos (show g (11 + 4 * n + 0) = 1 from h1), if_pos h1]
  rw [if_neg (show ¬ g (11 + 4 * n + 0) = 1 from h1), if_neg h1]
  by_cases h2 : g (11 + 4 * n) = 2
  · rw [if_pos (show g (11 + 4 * n + 0) = 2 from h2), if_pos h2]
  rw [if_neg (show ¬ g (11 + 4 * n + 0) = 2 from h2), if_neg h2]
  by_cases h3 : g (11 + 4 * n) = 3
  · rw [if_pos (show g (11 + 4 * n + 0) = 3 from h3), if_pos h3]
  rw [if_neg (show ¬ g (11 + 4 * n + 0) = 3 from h3), if_neg h3]
  by_cases h4 : g (11 + 4 * n) = 4
  · rw [if_pos (show g (11 + 4 * n + 0) = 4 from h4), if_pos h4]
    have a1 := zTsub (zTl zt_91) (zTs (g (11 + 4 * n + 3))) (by omega) (by omega)
    have a2 := zTsub (zTsub (zTl zt_99) (zTs (g (11 + 4 * n + 3))) (by omega) (by omega)) (zTl zt_8) (by omega) (by omega)
    rw [show (91 - g (11 + 4 * n + 3)) = (99 - g (11 + 4 * n + 3)) - 8 from Int32.toInt_inj.mp (by rw [zTe a1, zTe a2]; omega)]
  rw [if_neg (show ¬ g (11 + 4 * n + 0) = 4 from h4), if_neg h4]
  by_cases h5 : g (11 + 4 * n) = 5
  · rw [if_pos (show g (11 + 4 * n + 0) = 5 from h5), if_pos h5]
  rw [if_neg (show ¬ g (11 + 4 * n + 0) = 5 from h5), if_neg h5]
theorem v_told {σ τ : zg_S} (h : RR σ τ) (a b : Int32) : z2 (f_X6_told a b σ) (f_X7_told a b τ) SM := by
  refine ro h ?_ (w_X6_told a b σ) (w_X7_told a b τ) (fun p k z => z) (fun p k z => z)
  have o := h.1.2.2.1
  unfold f_X6_told f_X7_told
  refine z2_stall h (z2_pL rfl (z2_pR rfl (z2_some rfl))) (fun n hn hk h8 => ?_)
  refine z2_nL one_ne (z2_nR one_ne ?_)
  have en : a.toNatClampNeg = n := zTn (zTl hn) rfl
  refine z2_pL (zin_mk (by omega) (by omega)) ?_
  rw [en]
  have rd : ∀ (j : Nat) (b' : Int32), b'.toInt = j → j < 4 → z2 (some (σ (154 + 2 + n) j, σ)) (B_X7_told_56 a b' τ) (fun r _ r' _ => r = r') := fun j b' hb hj => by
    unfold B_X7_told_56
    exact z2_eR (r_of rfl hn h8 hb (by omega)) (z2_some (h.s n j hk hj))
  refine z2_iL (fun hb => ?_) (fun hb0 => ?_)
  · subst hb
    exact z2_pR rfl (rd 0 0 zt_0 (by decide))
  refine z2_nR hb0 (z2_iL (fun hb => ?_) (fun hb1 => ?_))
  · subst hb
    exact z2_pR rfl (rd 1 1 zt_1 (by decide))
  refine z2_nR hb1 (z2_iL (fun hb => ?_) (fun hb2 => ?_))
  · subst hb
    exact z2_pR rfl (rd 2 2 zt_2 (by decide))
  refine z2_nR hb2 (z2_iL (fun hb => ?_) (fun hb3 => ?_))
  · subst hb
    exact z2_pR rfl (rd 3 3 zt_3 (by decide))
  refine z2_nR hb3 (z2_iL (fun hb => ?_) (fun hb4 => ?_))
  · subst hb
    refine z2_pR rfl ?_
    refine z2_cL (c_lossOf h.1.1 h.1.2.1 o (by decide) n hk) (fun r s hp => ?_)
    refine z2_cR (r_spoils rfl o h.1.2.1.tv hn hk) (fun r' t hp' => ?_)
    exact z2_some (hp.1.trans hp'.1.symm)
  refine z2_nR hb4 (z2_iL (fun hb => ?_) (fun hb5 => ?_))
  · subst hb
    refine z2_pR rfl ?_
    rw [h.s n 1 hk (by decide)]
    refine z2_eL (c_shades h.1.1 _) (z2_eR (r_shaded rfl o hn hk) ?_)
    refine z2_iL (fun hz => z2_pR hz (z2_some rfl)) (fun hz => z2_nR hz (z2_some rfl))
  refine z2_nR hb5 (z2_iL (fun hb => ?_) (fun hb6 => ?_))
  · subst hb
    refine z2_pR rfl ?_
    refine z2_eL (c_worth _ _) (z2_eR (r_worth rfl hn h8 (o.2.1 n hk).2.2.2) ?_)
    refine z2_some ?_
    rw [h.s n 3 hk (by decide), show σ (154 + 2 + n) 0 = τ 1 (11 + 4 * n) from h.s n 0 hk (by decide)]
  · exact z2_nR hb6 (z2_some rfl)
/-! kinds under one another -/
def sIs (own kind : Int32) : Int32 := if own = kind then 1 else (if kind = 0 then 1 else (if kind = 1 then (if own = 3 then 1 else 0) else (if kind = 2 then (if own = 4 then 1 else 0) else 0)))
theorem r_isOf (a b : Int32) (τ : zg_S) : f_X7_isOf a b τ = some (sIs a b, τ) := by
  unfold f_X7_isOf sIs B_X7_isOf_19
  by_cases h1 : a = b
  · rw [if_pos h1, if_pos h1]
  rw [if_neg h1, if_neg h1]
  by_cases h2 : b = 0
  · rw [if_pos h2, if_pos h2]
  rw [if_neg h2, if_neg h2]
  by_cases h3 : b = 1
  · rw [if_pos h3, if_pos h3]
    by_cases h4 : a = 3
    · rw [if_pos h4, if_pos h4]
    · rw [if_neg h4, if_neg h4, if_neg (by rw [h3]; decide)]
  · rw [if_neg h3, if_neg h3]
    by_cases h4 : b = 2
    · rw [if_pos h4, if_pos h4]
      by_cases h5 : a = 4
      · rw [if_pos h5, if_pos h5]
      · rw [if_neg h5, if_neg h5]
    · rw [if_neg h4, if_neg h4]
theorem i6 (k : Int32) (h0 : 0 ≤ k.toInt) (h1 : k.toInt ≤ 5) : k = 0 ∨ k = 1 ∨ k = 2 ∨ k = 3 ∨ k = 4 ∨ k = 5 := by
  rcases i9 k h0 (by omega) with c | c | c | c | c | c | c | c | c
  · exact Or.inl c
  · exact Or.inr (Or.inl c)
  · exact Or.inr (Or.inr (Or.inl c))
  · exact Or.inr (Or.inr (Or.inr (Or.inl c)))
  · exact Or.inr (Or.inr (Or.inr (Or.inr (Or.inl c))))
  · exact Or.inr (Or.inr (Or.inr (Or.inr (Or.inr c))))
  · exact absurd (congrArg Int32.toInt c) (by rw [zt_6]; omega)
  · exact absurd (congrArg Int32.toInt c) (by rw [zt_7]; omega)
  · exact absurd (congrArg Int32.toInt c) (by rw [zt_8]; omega)
theorem zfx {α : Type} {bot : α} {F : α → α} {n : Nat} : zfix bot F (n + 1) = F (zfix bot F n) := rfl
theorem c_isOf_aux (q : Nat) (a k : Int32) (σ : zg_S) (hk : k = 0 ∨ k = 1 ∨ k = 2 ∨ k = 3 ∨ k = 4 ∨ k = 5) (ha : a = 0 ∨ a = 1 ∨ a = 2 ∨ a = 3 ∨ a = 4 ∨ a = 5) (n : Nat) : zfix (fun _ _ _ => none) (B_X4_isOf_7 q a) (n + 5) k 0 σ = some (sIs k a, σ) := by
  rcases hk with rfl | rfl | rfl | rfl | rfl | rfl <;> rcases ha with rfl | rfl | rfl | rfl | rfl | rfl <;> rfl
theorem c_isOf (q : Nat) (a : Int32) (σ : zg_S) (hk : 0 ≤ (σ q 0).toInt ∧ (σ q 0).toInt ≤ 5) (ha : 0 ≤ a.toInt ∧ a.toInt ≤ 5) : f_X4_isOf q a σ = some (sIs (σ q 0) a, σ) := c_isOf_aux q a (σ q 0) σ (i6 _ hk.1 hk.2) (i6 _ ha.1 ha.2) 99995
theorem v_as {σ τ : zg_S} (h : RR σ τ) (a b : Int32) : z2 (f_X6_as a b σ) (f_X7_as a b τ) SM := by
  refine ro h ?_ (w_X6_as a b σ) (w_X7_as a b τ) (W0 (fun _ _ z => z)) (W1 (fun _ _ z => z))
  have e0 := zt_0
  have e5 := zt_5
  have o := h.1.2.2.1
  unfold f_X6_as f_X7_as
  refine z2_stall h (z2_pL rfl (z2_pR rfl (z2_some rfl))) (fun n hn hk h8 => ?_)
  refine z2_nL one_ne (z2_nR one_ne ?_)
  refine z2_within (fun _ => z2_pL rfl (z2_pR rfl (z2_some rfl))) (fun h1 h2 => ?_)
  refine z2_nL one_ne (z2_nR one_ne ?_)
  have en : a.toNatClampNeg = n := zTn (zTl hn) rfl
  refine z2_pL (zin_mk (by omega) (by omega)) ?_
  rw [en]
  have k0 : σ (154 + 2 + n) 0 = τ 1 (11 + 4 * n) := h.s n 0 hk (by decide)
  have kb := (o.2.1 n hk).1
  have ci := c_isOf (154 + 2 + n) b σ (by rw [k0]; exact kb) ⟨by omega, by omega⟩
  rw [k0] at ci
  refine z2_eL ci ?_
  refine z2_eR (r_of rfl hn h8 zt_0 (by decide)) (z2_eR (r_isOf _ _ _) ?_)
  refine z2_iL (fun hz => z2_pR hz (z2_some rfl)) (fun hz => z2_nR hz ?_)
  refine z2_eR (r_of rfl hn h8 zt_3 (by decide)) ?_
  exact z2_some (h.s n 3 hk (by decide))
theorem v_why {σ τ : zg_S} (h : RR σ τ) (a : Int32) : z2 (f_X6_why a σ) (f_X7_why a τ) SM := by
  refine ro h ?_ (w_X6_why a σ) (w_X7_why a τ) (W0 (fun _ _ z => z)) (W1 (fun _ _ z => z))
  have e0 := zt_0
  have e2 := zt_2
  have o := h.1.2.2.1
  unfold f_X6_why f_X7_why
  refine z2_within (fun _ => z2_pL rfl (z2_pR rfl (z2_some rfl))) (fun h1 h2 => ?_)
  refine z2_nL one_ne (z2_nR one_ne ?_)
  refine z2_pL (zin_mk (by omega) (by omega)) ?_
  have hc : σ 155 a.toNatClampNeg = cC (τ 1) a := by
    obtain ⟨x, y, z⟩ := h.1.2.1.1
    rcases i6 a (by omega) (by omega) with c | c | c | c | c | c
    · rw [c]; exact x
    · rw [c]; exact y
    · rw [c]; exact z
    · exact absurd (congrArg Int32.toInt c) (by rw [zt_3]; omega)
    · exact absurd (congrArg Int32.toInt c) (by rw [zt_4]; omega)
    · exact absurd (congrArg Int32.toInt c) (by rw [zt_5]; omega)
  rw [hc]
  refine z2_cR (r_counts a τ (τ 1) rfl o.2.2.1) (fun r t hp => ?_)
  obtain ⟨rfl, rfl⟩ := hp
  unfold f_X7_orNone cC
  by_cases c : 0 ≤ sCt (τ 1) a
  · rw [if_pos c, if_pos c]
    exact z2_some rfl
  · rw [if_neg c, if_neg c]
    exact z2_some rfl
theorem v_textTold {σ τ : zg_S} (h : RR σ τ) (a b : Int32) : z2 (f_X6_textTold a b σ) (f_X7_textTold a b τ) SM := by
  refine ro h ?_ (w_X6_textTold a b σ) (w_X7_textTold a b τ) (W0 (fun _ _ z => z)) (W1 (fun _ _ z => z))
  have e0 := zt_0
  have e1 := zt_1
  have e47 := zt_47
  have e200 := zt_200
  have o := h.1.2.2.1
  have hn := o.2.2.1
  have en : σ 153 4 = τ 1 1 := h.f 1 (by decide)
  have es := zTe (zTsub (zTs (τ 1 1)) (zTl zt_1) (by omega) (by omega))
  unfold f_X6_textTold f_X7_textTold f_X7_isText
  rw [en]
  by_cases c : 0 ≤ a.toInt ∧ a.toInt < (τ 1 1).toInt
  · have nt := ztn c.1
    have ht : (a.toNatClampNeg : Int) < (τ 1 1).toInt := by omega
    obtain ⟨x0, x1, _⟩ := h.1.2.1.2 _ ht
    rw [c_within1 σ (by rw [es, e0]; omega), r_isIn1 τ (by rw [es, e0]; omega), zbd_s, zbd_s, if_neg one_ne]
    refine z2_eR (show (if (1 : Int32) = 0 ∨ (1 : Int32) = 1 then some ((1 : Int32), τ) else none) = some (1, τ) from rfl) (z2_nR one_ne ?_)
    have pT := zTadd (zTl zt_47) (zTmul (zTl zt_200) (zTs a) (by omega) (by omega)) (by omega) (by omega)
    refine z2_iL (fun hb => ?_) (fun hb0 => ?_)
    · subst hb
      refine z2_eR (r_isIn1 τ (by decide)) (z2_nR one_ne (z2_eR (r_textAt _ _) ?_))
      have p0 := zTadd pT (zTl zt_0) (by omega) (by omega)
      refine z2_pL (zin_mk c.1 (by omega)) (z2_pR (zin_mkT p0 (by omega) (by omega)) (z2_some ?_))
      rw [zTn p0 (show (47 + 200 * a.toInt + 0 : Int) = ((47 + 200 * a.toNatClampNeg : Nat) : Int) by omega)]
      exact x0
    · refine z2_iL (fun hb => ?_) (fun hb1 => ?_)
      · subst hb
        refine z2_eR (r_isIn1 τ (by decide)) (z2_nR one_ne (z2_eR (r_textAt _ _) ?_))
        have p0 := zTadd pT (zTl zt_1) (by omega) (by omega)
        refine z2_pL (zin_mk c.1 (by omega)) (z2_pR (zin_mkT p0 (by omega) (by omega)) (z2_some ?_))
        rw [zTn p0 (show (47 + 200 * a.toInt + 1 : Int) = ((47 + 200 * a.toNatClampNeg + 1 : Nat) : Int) by omega)]
        exact x1
      · have g0 := zne hb0
        have g1 := zne hb1
        exact z2_eR (r_isIn0 τ (by omega)) (z2_pR rfl (z2_some rfl))
  · rw [c_within0 σ (by rw [es, e0]; omega), r_isIn0 τ (by rw [es, e0]; omega), zbd_s, zbd_s]
    exact z2_pL rfl (z2_eR (show (if (0 : Int32) = 0 ∨ (0 : Int32) = 1 then some ((0 : Int32), τ) else none) = some (0, τ) from rfl) (z2_pR rfl (z2_some rfl)))
end
section
/-! the cloth, the book, fees and fines -/
theorem sShd_i {g : Nat → Int32} {F pl : Int32} (h2 : 0 ≤ (g 2).toInt) (hw : 1 ≤ (g 8).toInt ∧ (g 8).toInt ≤ 6) (hF : -100 ≤ F.toInt ∧ F.toInt ≤ 100) : sShd g F pl = 0 ↔ ¬ ((F + sO g).toInt ≤ pl.toInt ∧ pl.toInt < (F + sO g).toInt + (g 8).toInt) := by
  have ho := sO_b h2
  have e1 := zt_1
  have ea := zTadd (zTs F) (zTs (sO g)) (by omega) (by omega)
  have eb := zTe (zTadd ea (zTs (g 8)) (by omega) (by omega))
  rw [zTe ea]
  have ea' := zTe ea
  unfold sShd
  generalize (F + sO g) + g 8 = u at eb ⊢
  generalize F + sO g = w at ea' ⊢
  by_cases c : pl < w
  · rw [if_pos c]
    have := zlt c
    exact ⟨fun _ => by omega, fun _ => rfl⟩
  · rw [if_neg c]
    have := znlt c
    by_cases d : u ≤ pl
    · rw [if_pos d]
      have := zle d
      exact ⟨fun _ => by omega, fun _ => rfl⟩
    · rw [if_neg d]
      have := znle d
      exact ⟨fun z => absurd z one_ne, fun z => absurd ⟨by omega, by omega⟩ z⟩
/-- the first place in shade, from A on, W wide -/
def fsA (A W : Int) (r : Int32) : Prop := (r = -1000000005 ∧ ∀ x : Int, 0 ≤ x → x < 12 → ¬ (A ≤ x ∧ x < A + W)) ∨ (0 ≤ r.toInt ∧ r.toInt < 12 ∧ (A ≤ r.toInt ∧ r.toInt < A + W) ∧ ∀ x : Int, 0 ≤ x → x < r.toInt → ¬ (A ≤ x ∧ x < A + W))
theorem c_firstShaded {σ : zg_S} {p : Nat} {g : Nat → Int32} (h : EQB σ p g) (o : gOK g) : zk (f_X0_firstShaded p σ) (fun r s => σ = s ∧ fsA (g 7 + sO g).toInt (g 8).toInt r) := by
  obtain ⟨_, h2, h8, _⟩ := id o.1
  have e0 := zt_0
  have e1 := zt_1
  have e12 := zt_12
  unfold f_X0_firstShaded L_X0_firstShaded_2
  refine zl_I (fun (x1 : Int32) (s : zg_S) => σ = s ∧ 0 ≤ x1.toInt ∧ x1.toInt ≤ 12 ∧ ∀ x : Int, 0 ≤ x → x < x1.toInt → ¬ ((g 7 + sO g).toInt ≤ x ∧ x < (g 7 + sO g).toInt + (g 8).toInt)) (fun (x1 : Int32) (_ : zg_S) => (12 - x1.toInt).toNat) ?_ zfu _ _ ⟨rfl, by omega, by omega, fun x h1 h2 => by omega⟩ (by unfold zfu; omega)
  intro rec x1 s hI ih
  obtain ⟨rfl, i1, i2, i3⟩ := hI
  unfold B_X0_firstShaded_2
  refine zk_ite (fun hle => ?_) (fun hlt => ?_)
  · have := zle hle
    exact zk_some ⟨rfl, Or.inl ⟨rfl, fun x a b => i3 x a (by omega)⟩⟩
  · have gl := znle hlt
    refine zk_e (c_shades h x1) ?_
    have hi := sShd_i (g := g) (F := g 7) (pl := x1) h2.1 h8 (gF o.1)
    refine zk_ite (fun hz => ?_) (fun hz => ?_)
    · have ex := zTe (zTadd (zTs x1) (zTl zt_1) (by omega) (by omega))
      have hn := hi.mp hz
      refine ih (x1 + 1) σ ⟨rfl, by rw [ex]; omega, by rw [ex]; omega, fun x a b => ?_⟩ (by show (12 - (x1 + 1).toInt).toNat < (12 - x1.toInt).toNat; rw [ex]; omega)
      rw [ex] at b
      by_cases c : x < x1.toInt
      · exact i3 x a c
      · rw [show x = x1.toInt by omega]
        exact hn
    · refine zk_some ⟨rfl, Or.inr ⟨i1, by omega, ?_, i3⟩⟩
      exact Decidable.of_not_not (fun z => hz (hi.mpr z))
theorem r_firstShaded {τ : zg_S} {g : Nat → Int32} (h1 : τ 1 = g) (o : gOK g) : zk (zbd (f_X7_firstShaded τ) (fun r s => zbd (f_X7_orNone r s) (fun r' s' => some (r', s')))) (fun r s => τ = s ∧ fsA (g 7 + sO g).toInt (g 8).toInt r) := by
  obtain ⟨_, h2, h8, _⟩ := id o.1
  have e0 := zt_0
  have e12 := zt_12
  have ho := sO_b h2.1
  have gf := gF o.1
  have ea := zTadd (zTs (g 7)) (zTs (sO g)) (by omega) (by omega)
  have eb := zTe (zTadd ea (zTs (g 8)) (by omega) (by omega))
  have ea' := zTe ea
  have b15 : ∀ y : Int32, 0 ≤ y.toInt → (y.toInt = (g 7 + sO g).toInt ∨ (y.toInt = 0 ∧ (g 7 + sO g).toInt < 0)) → zk (zbd (B_X7_firstShaded_15 y τ) (fun r s => zbd (f_X7_orNone r s) (fun r' s' => some (r', s')))) (fun r s => τ = s ∧ fsA (g 7 + sO g).toInt (g 8).toInt r) := fun y hy hc => by
    have none : (∀ x : Int, 0 ≤ x → x < 12 → ¬ ((g 7 + sO g).toInt ≤ x ∧ x < (g 7 + sO g).toInt + (g 8).toInt)) → zk (zbd (some ((-1 : Int32), τ)) (fun r s => zbd (f_X7_orNone r s) (fun r' s' => some (r', s')))) (fun r s => τ = s ∧ fsA (g 7 + sO g).toInt (g 8).toInt r) := fun hn => ⟨-1000000005, τ, rfl, rfl, Or.inl ⟨rfl, hn⟩⟩
    unfold B_X7_firstShaded_15
    rw [r_shadeFrom h1, zbd_s, h1]
    generalize (g 7 + sO g) + g 8 = u at eb ⊢
    generalize g 7 + sO g = w at ea' hc none ⊢
    by_cases c : 12 ≤ y
    · rw [if_pos c]
      have := zle c
      exact none (fun x a b => by omega)
    · rw [if_neg c]
      have := znle c
      by_cases d : u ≤ y
      · rw [if_pos d]
        have := zle d
        exact none (fun x a b => by omega)
      · rw [if_neg d]
        have := znle d
        have eo : f_X7_orNone y τ = some (y, τ) := by
          unfold f_X7_orNone
          rw [if_pos (Int32.le_iff_toInt_le.mpr (by omega))]
        refine ⟨y, τ, ?_, rfl, Or.inr ⟨hy, by omega, ⟨by omega, by omega⟩, fun x a b => by omega⟩⟩
        rw [zbd_s, eo, zbd_s]
  unfold f_X7_firstShaded
  rw [r_shadeFrom h1, zbd_s, r_shadeFrom h1, zbd_s]
  by_cases c : 0 ≤ g 7 + sO g
  · rw [if_pos c]
    have := zle c
    exact b15 _ (by omega) (Or.inl rfl)
  · rw [if_neg c]
    have := znle c
    exact b15 0 (by omega) (Or.inr ⟨e0, by omega⟩)
theorem fsA_u {A W : Int} {r r' : Int32} (h : fsA A W r) (h' : fsA A W r') : r = r' := by
  rcases h with ⟨a, b⟩ | ⟨a1, a2, a3, a4⟩
  · rcases h' with ⟨c, d⟩ | ⟨c1, c2, c3, c4⟩
    · rw [a, c]
    · exact absurd c3 (b _ c1 c2)
  · rcases h' with ⟨c, d⟩ | ⟨c1, c2, c3, c4⟩
    · exact absurd a3 (d _ a1 a2)
    · refine Int32.toInt_inj.mp ?_
      by_cases x : r.toInt < r'.toInt
      · exact absurd a3 (c4 _ a1 x)
      · by_cases y : r'.toInt < r.toInt
        · exact absurd c3 (a4 _ c1 y)
        · omega
def sSS (g : Nat → Int32) : Nat → Int32
  | 0 => 0
  | k + 1 => if sShd g (g 7) (g (11 + 4 * k + 1)) = 0 then sSS g k else sSS g k ||| (1 <<< (Int32.ofNat k &&& 31))
theorem ofNe {x : Int32} {i : Nat} (h : x.toInt = i) : x = Int32.ofNat i := by
  have hb := Int32.toInt_lt x
  exact Int32.toInt_inj.mp (by rw [ofN (by omega)]; exact h)
theorem c_shadedSet {σ : zg_S} {p : Nat} {g : Nat → Int32} (h : EQB σ p g) (o : gOK g) : zk (f_X0_shadedSet p σ) (fun r s => σ = s ∧ r = sSS g (g 0).toNatClampNeg) := by
  obtain ⟨hN, _⟩ := id o.1
  have e0 := zt_0
  have e1 := zt_1
  have nn := ztn hN.1
  unfold f_X0_shadedSet L_X0_shadedSet_4
  refine zl_II (fun (x1 x2 : Int32) (s : zg_S) => σ = s ∧ ∃ i : Nat, x2.toInt = i ∧ (i : Int) ≤ (g 0).toInt ∧ x1 = sSS g i) (fun (_ x2 : Int32) (_ : zg_S) => (9 - x2.toInt).toNat) ?_ zfu _ _ _ ⟨rfl, 0, e0, by omega, rfl⟩ (by unfold zfu; omega)
  intro rec x1 x2 s hI ih
  obtain ⟨rfl, i, hi, hi2, hx⟩ := hI
  unfold B_X0_shadedSet_4
  rw [show σ p 3 = g 0 from h.f 0 (by decide)]
  refine zk_ite (fun hle => ?_) (fun hlt => ?_)
  · have := zle hle
    exact zk_some ⟨rfl, by rw [show (g 0).toNatClampNeg = i by omega]; exact hx⟩
  · have gl := znle hlt
    have ni := ztn (i := x2) (by omega)
    have hk : (i : Int) < (g 0).toInt := by omega
    refine zk_in (zin_mk (by omega) (by omega)) ?_
    rw [show x2.toNatClampNeg = i by omega, h.2 i 1 hk (by decide)]
    have ex := zTe (zTadd (zTs x2) (zTl zt_1) (by omega) (by omega))
    have nx7 : ∀ y : Int32, y = sSS g (i + 1) → zk (B_X0_shadedSet_34 p rec y x2 σ) (fun r s => σ = s ∧ r = sSS g (g 0).toNatClampNeg) := fun y hy => by
      unfold B_X0_shadedSet_34
      exact ih y (x2 + 1) σ ⟨rfl, i + 1, by rw [ex, hi]; rfl, by omega, hy⟩ (by show (9 - (x2 + 1).toInt).toNat < (9 - x2.toInt).toNat; rw [ex]; omega)
    have eP : sSS g (i + 1) = if sShd g (g 7) (g (11 + 4 * i + 1)) = 0 then sSS g i else sSS g i ||| (1 <<< (Int32.ofNat i &&& 31)) := rfl
    refine zk_e (c_shades h _) ?_
    refine zk_ite (fun hd => nx7 _ (by rw [eP, if_pos hd]; exact hx)) (fun hd => nx7 _ (by rw [eP, if_neg hd, hx, ← ofNe hi]))
theorem r_shadedSet {τ : zg_S} {g : Nat → Int32} (h1 : τ 1 = g) (o : gOK g) : zk (f_X7_shadedSet τ) (fun r s => τ = s ∧ r = sSS g (g 0).toNatClampNeg) := by
  obtain ⟨hN, _⟩ := id o.1
  have e0 := zt_0
  have e1 := zt_1
  have nn := ztn hN.1
  unfold f_X7_shadedSet L_X7_shadedSet_4
  refine zl_II (fun (x1 x2 : Int32) (s : zg_S) => τ = s ∧ ∃ i : Nat, x2.toInt = i ∧ (i : Int) ≤ (g 0).toInt ∧ x1 = sSS g i) (fun (_ x2 : Int32) (_ : zg_S) => (9 - x2.toInt).toNat) ?_ zfu _ _ _ ⟨rfl, 0, e0, by omega, rfl⟩ (by unfold zfu; omega)
  intro rec x1 x2 s hI ih
  obtain ⟨rfl, i, hi, hi2, hx⟩ := hI
  unfold B_X7_shadedSet_4
  rw [show τ 1 0 = g 0 from congrFun h1 0]
  refine zk_ite (fun hle => ?_) (fun hlt => ?_)
  · have := zle hle
    exact zk_some ⟨rfl, by rw [show (g 0).toNatClampNeg = i by omega]; exact hx⟩
  · have gl := znle hlt
    have ex := zTe (zTadd (zTs x2) (zTl zt_1) (by omega) (by omega))
    have nx7 : ∀ y : Int32, x1 ||| y = sSS g (i + 1) → zk (B_X7_shadedSet_30 rec x2 y x1 τ) (fun r s => τ = s ∧ r = sSS g (g 0).toNatClampNeg) := fun y hy => by
      unfold B_X7_shadedSet_30
      exact ih _ (x2 + 1) τ ⟨rfl, i + 1, by rw [ex, hi]; rfl, by omega, hy⟩ (by show (9 - (x2 + 1).toInt).toNat < (9 - x2.toInt).toNat; rw [ex]; omega)
    have eP : sSS g (i + 1) = if sShd g (g 7) (g (11 + 4 * i + 1)) = 0 then sSS g i else sSS g i ||| (1 <<< (Int32.ofNat i &&& 31)) := rfl
    refine zk_e (r_shaded h1 o hi (by omega)) ?_
    refine zk_ite (fun hd => nx7 0 (by rw [eP, if_pos hd, hx]; exact sb_no _)) (fun hd => nx7 _ (by rw [eP, if_neg hd, hx, ← ofNe hi]))
def sAG (g : Nat → Int32) : Nat → Int32
  | 0 => 0
  | k + 1 => sAG g k + g (11 + 4 * k + 2)
theorem v_cloth {σ τ : zg_S} (h : RR σ τ) (a : Int32) : z2 (f_X6_cloth a σ) (f_X7_cloth a τ) SM := by
  refine ro h ?_ (w_X6_cloth a σ) (w_X7_cloth a τ) (W0 (fun _ _ z => z)) (W1 (fun _ _ z => z))
  have o := h.1.2.2.1
  unfold f_X6_cloth f_X7_cloth B_X7_cloth_44
  refine z2_iL (fun ha => ?_) (fun h0 => z2_nR h0 ?_)
  · subst ha
    exact z2_pR rfl (z2_pR (by decide) (z2_some (h.f 7 (by decide))))
  refine z2_iL (fun ha => ?_) (fun h1 => z2_nR h1 ?_)
  · subst ha
    exact z2_pR rfl (z2_pR (by decide) (z2_some (h.f 8 (by decide))))
  refine z2_iL (fun ha => ?_) (fun h2 => z2_nR h2 ?_)
  · subst ha
    exact z2_pR rfl (z2_pR (by decide) (z2_some (h.f 9 (by decide))))
  refine z2_iL (fun ha => ?_) (fun h3 => z2_nR h3 ?_)
  · subst ha
    exact z2_pR rfl (z2_pR (by decide) (z2_some (h.f 10 (by decide))))
  refine z2_iL (fun ha => z2_pR ha ?_) (fun h4 => z2_nR h4 ?_)
  · exact z2_eL (c_heat h.1.1) (z2_eR (r_heat rfl o) (z2_some rfl))
  refine z2_iL (fun ha => z2_pR ha ?_) (fun h5 => z2_nR h5 ?_)
  · refine z2_cL (c_firstShaded h.1.1 o) (fun r s hp => ?_)
    obtain ⟨r', t, e, he⟩ := r_firstShaded (τ := τ) rfl o
    rw [e]
    exact z2_some (fsA_u hp.2 he.2)
  refine z2_iL (fun ha => z2_pR ha ?_) (fun h6 => z2_nR h6 (z2_some rfl))
  refine z2_cL (c_shadedSet h.1.1 o) (fun r s hp => ?_)
  refine z2_cR (r_shadedSet rfl o) (fun r' t hp' => ?_)
  exact z2_some (hp.2.trans hp'.2.symm)
theorem v_book {σ τ : zg_S} (h : RR σ τ) (a : Int32) : z2 (f_X6_book a σ) (f_X7_book a τ) SM := by
  refine ro h ?_ (w_X6_book a σ) (w_X7_book a τ) (W0 (fun _ _ z => z)) (W1 (fun _ _ z => z))
  have o := h.1.2.2.1
  obtain ⟨hN, _⟩ := id o.1
  have e0 := zt_0
  have e1 := zt_1
  have nn := ztn hN.1
  unfold f_X6_book f_X7_book
  refine z2_iL (fun ha => z2_pR ha (z2_some (h.f 4 (by decide)))) (fun h0 => z2_nR h0 ?_)
  refine z2_iL (fun ha => z2_pR ha (z2_some (h.f 3 (by decide)))) (fun h1 => z2_nR h1 ?_)
  refine z2_iL (fun ha => z2_pR ha (z2_some (h.f 5 (by decide)))) (fun h2 => z2_nR h2 ?_)
  refine z2_iL (fun ha => z2_pR ha ?_) (fun h3 => z2_nR h3 (z2_some rfl))
  have A : zk (f_X0_allGoods 153 σ) (fun r _ => r = sAG (τ 1) (τ 1 0).toNatClampNeg) := by
    unfold f_X0_allGoods L_X0_allGoods_4
    refine zl_II (fun (x1 x2 : Int32) (s : zg_S) => σ = s ∧ ∃ i : Nat, x2.toInt = i ∧ (i : Int) ≤ (τ 1 0).toInt ∧ x1 = sAG (τ 1) i) (fun (_ x2 : Int32) (_ : zg_S) => (9 - x2.toInt).toNat) ?_ zfu _ _ _ ⟨rfl, 0, e0, by omega, rfl⟩ (by unfold zfu; omega)
    intro rec x1 x2 s hI ih
    obtain ⟨rfl, i, hi, hi2, hx⟩ := hI
    unfold B_X0_allGoods_4
    rw [show σ 153 3 = τ 1 0 from h.f 0 (by decide)]
    refine zk_ite (fun hle => ?_) (fun hlt => ?_)
    · have := zle hle
      exact zk_some (by rw [show (τ 1 0).toNatClampNeg = i by omega]; exact hx)
    · have gl := znle hlt
      have ni := ztn (i := x2) (by omega)
      refine zk_in (zin_mk (by omega) (by omega)) (zk_let (fun y ey => ?_))
      have ex := zTe (zTadd (zTs x2) (zTl zt_1) (by omega) (by omega))
      refine ih y (x2 + 1) σ ⟨rfl, i + 1, by rw [ex, hi]; rfl, by omega, ?_⟩ (by show (9 - (x2 + 1).toInt).toNat < (9 - x2.toInt).toNat; rw [ex]; omega)
      rw [ey, hx, show x2.toNatClampNeg = i by omega, show σ (153 + 1 + 2 + i) 2 = τ 1 (11 + 4 * i + 2) from h.s i 2 (by omega) (by decide)]
      rfl
  have B : zk (L_X7_book_63 a zfu 0 0 τ) (fun r _ => r = sAG (τ 1) (τ 1 0).toNatClampNeg) := by
    unfold L_X7_book_63
    refine zl_II (fun (x1 x2 : Int32) (s : zg_S) => τ = s ∧ ∃ i : Nat, x2.toInt = i ∧ (i : Int) ≤ (τ 1 0).toInt ∧ x1 = sAG (τ 1) i) (fun (_ x2 : Int32) (_ : zg_S) => (9 - x2.toInt).toNat) ?_ zfu _ _ _ ⟨rfl, 0, e0, by omega, rfl⟩ (by unfold zfu; omega)
    intro rec x1 x2 s hI ih
    obtain ⟨rfl, i, hi, hi2, hx⟩ := hI
    unfold B_X7_book_63
    refine zk_ite (fun hle => ?_) (fun hlt => ?_)
    · have := zle hle
      exact zk_some (by rw [show (τ 1 0).toNatClampNeg = i by omega]; exact hx)
    · have gl := znle hlt
      refine zk_e (r_of rfl hi (by omega) zt_2 (by decide)) ?_
      have ex := zTe (zTadd (zTs x2) (zTl zt_1) (by omega) (by omega))
      exact ih _ (x2 + 1) τ ⟨rfl, i + 1, by rw [ex, hi]; rfl, by omega, by rw [hx]; rfl⟩ (by show (9 - (x2 + 1).toInt).toNat < (9 - x2.toInt).toNat; rw [ex]; omega)
  refine z2_cL A (fun r s hp => ?_)
  obtain ⟨r', t, e, hp'⟩ := B
  rw [e]
  exact z2_some (hp.trans hp'.symm)
/-- which text counts: where both find it -/
theorem cC_c {g : Nat → Int32} (o : gOK g) (key : Int32) : (0 ≤ (sCt g key).toInt ∧ cC g key = sCt g key ∧ (sCt g key).toInt < (g 1).toInt ∧ g (47 + 200 * (sCt g key).toNatClampNeg) = key) ∨ ((sCt g key).toInt < 0 ∧ cC g key = -1000000005) := by
  have hn := o.2.2.1
  have nn := ztn hn.1
  have e0 := zt_0
  have hb := sCn_b g key (g 1).toNatClampNeg (by omega)
  unfold cC
  by_cases c : 0 ≤ sCt g key
  · have := zle c
    rw [if_pos c]
    refine Or.inl ⟨by omega, rfl, ?_, hb.2.2 (by show 0 ≤ (sCt g key).toInt; omega)⟩
    have := hb.2.1
    show (sCn g key (g 1).toNatClampNeg).toInt < _
    omega
  · have := znle c
    rw [if_neg c]
    exact Or.inr ⟨by omega, rfl⟩
theorem v_fee {σ τ : zg_S} (h : RR σ τ) : z2 (f_X6_fee σ) (f_X7_fee τ) SM := by
  refine ro h ?_ (w_X6_fee σ) (w_X7_fee τ) (fun p k z => z) (fun p k z => z)
  have o := h.1.2.2.1
  have e0 := zt_0
  have e13 := zt_13
  have hn := o.2.2.1
  unfold f_X6_fee f_X7_fee
  rw [show σ 155 1 = cC (τ 1) 1 from h.1.2.1.1.2.1]
  refine z2_cR (r_counts 1 τ (τ 1) rfl hn) (fun r t hp => ?_)
  obtain ⟨rfl, rfl⟩ := hp
  rcases cC_c o 1 with ⟨c0, c1, c2, c3⟩ | ⟨c0, c1⟩
  · rw [c1]
    have nt := ztn c0
    have ht : ((sCt (τ 1) 1).toNatClampNeg : Int) < (τ 1 1).toInt := by omega
    refine z2_eL (c_within1 σ ⟨by omega, by omega⟩) (z2_nL one_ne (z2_pL (zin_mk c0 (by omega)) ?_))
    refine z2_pR (Int32.le_iff_toInt_le.mpr (by omega)) ?_
    refine z2_lR (fun t1 q1 => z2_lR (fun t2 q2 => ?_))
    have r1 : t1 1 = τ 1 := by rw [q1]; exact zup_ne rfl
    have r2 : t2 1 = τ 1 := by rw [q2]; exact (zup_ne rfl).trans r1
    have v116 : t2 14 116 = τ 1 5 := by rw [q2]; exact zgot.trans (congrFun r1 5)
    have v99 : t2 14 99 = τ 1 3 := by rw [q2]; refine (zkeepf rfl).trans ?_; rw [q1]; exact zgot
    rw [show σ 153 10 = τ 1 3 from h.f 3 (by decide), show σ 153 12 = τ 1 5 from h.f 5 (by decide)]
    refine z2_cL (c_workOut _ (τ 1 3) (τ 1 5) 0 σ (τ 1) (h.1.2.1.2 _ ht) (o.2.2.2.1 _ ht) (o.2.2.2.2 _ ht)) (fun r s hp => ?_)
    refine z2_cR (r_worked (sCt (τ 1) 1) (sCt (τ 1) 1).toNatClampNeg (τ 1 3) (τ 1 5) 0 t2 (τ 1) r2 (by omega) (by omega) (h.1.2.1.tv _ ht) (o.2.2.2.1 _ ht) ?_) (fun r' t hp' => z2_some (hp.trans hp'.symm))
    intro v c' hno
    rw [c3] at hno ⊢
    rcases hno with ⟨x, _⟩ | ⟨_, x⟩ | ⟨x, _⟩
    · exact absurd x (by decide)
    · rcases x with ⟨x, _⟩ | ⟨x, _⟩
      · rw [x]; exact v99
      · rw [x]; exact v116
    · exact absurd x (by decide)
  · rw [c1]
    refine z2_eL (c_within0 σ (by decide)) (z2_pL rfl ?_)
    exact z2_nR (fun z => by have := zle z; omega) (z2_some (h.f 3 (by decide)))
theorem v_fine {σ τ : zg_S} (h : RR σ τ) (a : Int32) : z2 (f_X6_fine a σ) (f_X7_fine a τ) SM := by
  refine ro h ?_ (w_X6_fine a σ) (w_X7_fine a τ) (fun p k z => z) (fun p k z => z)
  have o := h.1.2.2.1
  have e0 := zt_0
  have e13 := zt_13
  have hn := o.2.2.1
  unfold f_X6_fine f_X7_fine
  refine z2_stall h (z2_pL rfl (z2_pR rfl (z2_some rfl))) (fun n hn8 hk h8 => ?_)
  refine z2_nL one_ne (z2_nR one_ne ?_)
  have en : a.toNatClampNeg = n := zTn (zTl hn8) rfl
  refine z2_pL (zin_mk (by omega) (by omega)) ?_
  rw [en, show σ 155 2 = cC (τ 1) 2 from h.1.2.1.1.2.2]
  refine z2_cR (r_counts 2 τ (τ 1) rfl hn) (fun r t hp => ?_)
  obtain ⟨rfl, rfl⟩ := hp
  rcases cC_c o 2 with ⟨c0, c1, c2, c3⟩ | ⟨c0, c1⟩
  · rw [c1]
    have nt := ztn c0
    have ht : ((sCt (τ 1) 2).toNatClampNeg : Int) < (τ 1 1).toInt := by omega
    refine z2_eL (c_within1 σ ⟨by omega, by omega⟩) (z2_nL one_ne (z2_pL (zin_mk c0 (by omega)) ?_))
    rw [h.s n 2 hk (by decide), h.s n 1 hk (by decide)]
    refine z2_pR (Int32.le_iff_toInt_le.mpr (by omega)) ?_
    refine z2_eR (r_of rfl hn8 h8 zt_2 (by decide)) (z2_lR (fun t1 q1 => ?_))
    have r1 : t1 1 = τ 1 := by rw [q1]; exact zup_ne rfl
    refine z2_eL (c_shades h.1.1 _) (z2_eR (r_shaded r1 o hn8 hk) ?_)
    have both : ∀ y : Int32, z2 (zbd (f_X5_workOut (11 + 3 * (sCt (τ 1) 2).toNatClampNeg) (τ 1 (11 + 4 * n + 2)) y 0 σ) (fun r38 σ39 => some (r38, σ39))) (B_X7_fine_60 a (sCt (τ 1) 2) y 115 t1) (fun r _ r' _ => r = r') := fun y => by
      unfold B_X7_fine_60
      refine z2_pR (by decide) (z2_lR (fun t2 q2 => ?_))
      have r2 : t2 1 = τ 1 := by rw [q2]; exact (zup_ne rfl).trans r1
      have v115 : t2 14 115 = y := by rw [q2]; exact zgot
      have v103 : t2 14 103 = τ 1 (11 + 4 * n + 2) := by rw [q2]; refine (zkeepf rfl).trans ?_; rw [q1]; exact zgot
      refine z2_cL (c_workOut _ (τ 1 (11 + 4 * n + 2)) y 0 σ (τ 1) (h.1.2.1.2 _ ht) (o.2.2.2.1 _ ht) (o.2.2.2.2 _ ht)) (fun r s hp => ?_)
      refine z2_cR (r_worked (sCt (τ 1) 2) (sCt (τ 1) 2).toNatClampNeg (τ 1 (11 + 4 * n + 2)) y 0 t2 (τ 1) r2 (by omega) (by omega) (h.1.2.1.tv _ ht) (o.2.2.2.1 _ ht) ?_) (fun r' t hp' => z2_some (hp.trans hp'.symm))
      intro v c' hno
      rw [c3] at hno ⊢
      rcases hno with ⟨x, _⟩ | ⟨x, _⟩ | ⟨_, x⟩
      · exact absurd x (by decide)
      · exact absurd x (by decide)
      · rcases x with ⟨x, _⟩ | ⟨x, _⟩
        · rw [x]; exact v103
        · rw [x]; exact v115
    refine z2_iL (fun hz => z2_pR hz (both 0)) (fun hz => z2_nR hz (both 1))
  · rw [c1]
    refine z2_eL (c_within0 σ (by decide)) (z2_pL rfl ?_)
    refine z2_nR (fun z => by have := zle z; omega) ?_
    rw [h.s n 2 hk (by decide)]
    exact z2_eR (r_of rfl hn8 h8 zt_2 (by decide)) (z2_some rfl)
end
section
/-! tape, waiting numbers -/
theorem RR.r3 {σ s τ t : zg_S} (h : RR σ τ) (a : ∀ p k, ¬ ((p = 0 ∧ k = 10) ∨ p = 6) → s p k = σ p k) (b : ∀ p k, ¬ ((p = 0 ∧ k = 14) ∨ p = 13) → t p k = τ p k) (c : R3 s t) : RR s t := by
  obtain ⟨h1, h2, _, h4, h5, h6⟩ := h
  have e1 : t 1 = τ 1 := funext (fun k => b 1 k (by omega))
  exact ⟨by rw [e1]; exact bz_wr h1 (by decide) (fun q k _ _ => a q k (by omega)) (fun q k _ _ _ => a q k (by omega)), h2.k (a 0 12 (by omega)) (b 0 3 (by omega)) (funext (fun k => b 2 k (by omega))) (by rw [e1]; exact Int.le_refl _) (fun q k _ _ => a q k (by omega)) (fun q k _ _ _ => a q k (by omega)), c, h4.k (a 0 11 (by omega)) (b 0 29 (by omega)) (fun k => a 5 k (by omega)) (fun k => b 17 k (by omega)), h5.k (fun q k _ _ => a q k (by omega)) (fun k => b 4 k (by omega)) (fun k => b 5 k (by omega)) (fun k => b 6 k (by omega)), h6.k (fun q k _ _ => a q k (by omega)) (fun p k _ _ => b p k (by omega))⟩
theorem RR.r4 {σ s τ t : zg_S} (h : RR σ τ) (a : ∀ p k, ¬ ((p = 0 ∧ k = 11) ∨ p = 5) → s p k = σ p k) (b : ∀ p k, ¬ ((p = 0 ∧ k = 29) ∨ p = 17) → t p k = τ p k) (c : R4 s t) : RR s t := by
  obtain ⟨h1, h2, h3, _, h5, h6⟩ := h
  have e1 : t 1 = τ 1 := funext (fun k => b 1 k (by omega))
  exact ⟨by rw [e1]; exact bz_wr h1 (by decide) (fun q k _ _ => a q k (by omega)) (fun q k _ _ _ => a q k (by omega)), h2.k (a 0 12 (by omega)) (b 0 3 (by omega)) (funext (fun k => b 2 k (by omega))) (by rw [e1]; exact Int.le_refl _) (fun q k _ _ => a q k (by omega)) (fun q k _ _ _ => a q k (by omega)), h3.k (a 0 10 (by omega)) (b 0 14 (by omega)) (fun k => a 6 k (by omega)) (fun k => b 13 k (by omega)), c, h5.k (fun q k _ _ => a q k (by omega)) (fun k => b 4 k (by omega)) (fun k => b 5 k (by omega)) (fun k => b 6 k (by omega)), h6.k (fun q k _ _ => a q k (by omega)) (fun p k _ _ => b p k (by omega))⟩
theorem RR.r5 {σ s τ t : zg_S} (h : RR σ τ) (a : ∀ p k, ¬ (53 ≤ p ∧ p ≤ 60) → s p k = σ p k) (b : ∀ p k, ¬ ((4 ≤ p ∧ p ≤ 6) ∨ p = 16) → t p k = τ p k) (c : R5 s t) : RR s t := by
  obtain ⟨h1, h2, h3, h4, _, h6⟩ := h
  have e1 : t 1 = τ 1 := funext (fun k => b 1 k (by omega))
  exact ⟨by rw [e1]; exact bz_wr h1 (by decide) (fun q k _ _ => a q k (by omega)) (fun q k _ _ _ => a q k (by omega)), h2.k (a 0 12 (by omega)) (b 0 3 (by omega)) (funext (fun k => b 2 k (by omega))) (by rw [e1]; exact Int.le_refl _) (fun q k _ _ => a q k (by omega)) (fun q k _ _ _ => a q k (by omega)), h3.k (a 0 10 (by omega)) (b 0 14 (by omega)) (fun k => a 6 k (by omega)) (fun k => b 13 k (by omega)), h4.k (a 0 11 (by omega)) (b 0 29 (by omega)) (fun k => a 5 k (by omega)) (fun k => b 17 k (by omega)), c, h6.k (fun q k _ _ => a q k (by omega)) (fun p k _ _ => b p k (by omega))⟩
theorem RR.r6 {σ s τ t : zg_S} (h : RR σ τ) (a : ∀ p k, ¬ (61 ≤ p ∧ p ≤ 80) → s p k = σ p k) (b : ∀ p k, ¬ (7 ≤ p ∧ p ≤ 11) → t p k = τ p k) (c : R6 s t) : RR s t := by
  obtain ⟨h1, h2, h3, h4, h5, _⟩ := h
  have e1 : t 1 = τ 1 := funext (fun k => b 1 k (by omega))
  exact ⟨by rw [e1]; exact bz_wr h1 (by decide) (fun q k _ _ => a q k (by omega)) (fun q k _ _ _ => a q k (by omega)), h2.k (a 0 12 (by omega)) (b 0 3 (by omega)) (funext (fun k => b 2 k (by omega))) (by rw [e1]; exact Int.le_refl _) (fun q k _ _ => a q k (by omega)) (fun q k _ _ _ => a q k (by omega)), h3.k (a 0 10 (by omega)) (b 0 14 (by omega)) (fun k => a 6 k (by omega)) (fun k => b 13 k (by omega)), h4.k (a 0 11 (by omega)) (b 0 29 (by omega)) (fun k => a 5 k (by omega)) (fun k => b 17 k (by omega)), h5.k (fun q k _ _ => a q k (by omega)) (fun k => b 4 k (by omega)) (fun k => b 5 k (by omega)) (fun k => b 6 k (by omega)), c⟩
theorem v_tell {σ τ : zg_S} (h : RR σ τ) (hM : IMc τ) (a : Int32) : z2 (f_X6_tell a σ) (f_X7_tell a τ) SM := by
  have f29 : 0 ≤ (τ 0 29).toInt ∧ (τ 0 29).toInt ≤ 60 := hM 0 29
  have e60 := zt_60
  have e1 := zt_1
  obtain ⟨hw, hv⟩ := h.2.2.2.1
  have na := ztn f29.1
  unfold f_X6_tell f_X7_tell
  rw [hw]
  refine z2_iL (fun hc => ?_) (fun hc => ?_)
  · have gc := zlt hc
    refine z2_nR (fun z => by have := zeq z; omega) ?_
    have zi : zin (τ 0 29) 60 = true := zin_mk f29.1 (by omega)
    refine z2_pL zi (z2_pR zi ?_)
    refine z2_lL (fun s1 q1 => z2_lL (fun s2 q2 => z2_lR (fun t1 p1 => z2_lR (fun t2 p2 => ?_))))
    have k1 : s1 0 11 = τ 0 29 := by rw [q1]; exact (congrFun (zup_ne rfl) 11).trans hw
    have k2 : t1 0 29 = τ 0 29 := by rw [p1]; exact congrFun (zup_ne rfl) 29
    rw [k1] at q2
    rw [k2] at p2
    have m1 : s2 0 11 = τ 0 29 + 1 := by rw [q2]; exact zgot
    have m2 : t2 0 29 = τ 0 29 + 1 := by rw [p2]; exact zgot
    refine z2_some ⟨by rw [m1, m2], h.r4 (fun p k hp => ?_) (fun p k hp => ?_) ⟨by rw [m1, m2], fun i hi => ?_⟩⟩
    · rw [q2, q1]
      by_cases e : p = 0
      · subst e
        exact (zkeepn (by omega)).trans (congrFun (zup_ne rfl) k)
      · exact (congrFun (zg_row_ne e) k).trans (congrFun (zg_row_ne (by omega)) k)
    · rw [p2, p1]
      by_cases e : p = 0
      · subst e
        exact (zkeepn (by omega)).trans (congrFun (zup_ne rfl) k)
      · exact (congrFun (zg_row_ne e) k).trans (congrFun (zg_row_ne (by omega)) k)
    · have ea := zTe (zTadd (zTs (τ 0 29)) (zTl zt_1) (by omega) (by omega))
      rw [m2, ea] at hi
      have x1 : s2 5 = upd (σ 5) (τ 0 29).toNatClampNeg a := by rw [q2, q1]; exact (zup_ne rfl).trans zg_row_eq
      have x2 : t2 17 = upd (τ 17) (τ 0 29).toNatClampNeg a := by rw [p2, p1]; exact (zup_ne rfl).trans zg_row_eq
      rw [x1, x2]
      by_cases e : i = (τ 0 29).toNatClampNeg
      · rw [e, pk_us, pk_us]
      · rw [pk_un e, pk_un e]
        exact hv i (by omega)
  · have gc := znlt hc
    exact z2_pR (Int32.toInt_inj.mp (by omega)) (z2_some (SM.rf h))
theorem v_trim {σ τ : zg_S} (h : RR σ τ) (a : Int32) : z2 (f_X6_trim a σ) (f_X7_trim a τ) SM := by
  have e0 := zt_0
  obtain ⟨hw, hv⟩ := h.2.2.1
  unfold f_X6_trim f_X7_trim
  rw [hw]
  refine z2_within (fun _ => z2_pL rfl (z2_pR rfl (z2_some (SM.rf h)))) (fun h1 h2 => z2_nL one_ne (z2_nR one_ne ?_))
  refine z2_lL (fun s q => z2_lR (fun t p => z2_some ⟨rfl, h.r3 (fun x k hx => ?_) (fun x k hx => ?_) ⟨?_, fun i hi => ?_⟩⟩))
  · rw [q]
    by_cases e : x = 0
    · subst e
      exact zkeepn (by omega)
    · exact congrFun (zg_row_ne e) k
  · rw [p]
    by_cases e : x = 0
    · subst e
      exact zkeepn (by omega)
    · exact congrFun (zg_row_ne e) k
  · rw [q, p]
    exact zgot.trans zgot.symm
  · rw [p, zgot] at hi
    rw [q, p, show zg_up σ 0 10 a 6 = σ 6 from zup_ne rfl, show zg_up τ 0 14 a 13 = τ 13 from zup_ne rfl]
    exact hv i (by omega)
/-! questions to slots -/
theorem z2_slot {σ τ : zg_S} {a : Int32} {k k' : Int32 → zg_S → Option (Int32 × zg_S)} {P : Int32 → zg_S → Int32 → zg_S → Prop} (h0 : z2 (k 0 σ) (k' 0 τ) P) (h1 : ∀ n : Nat, a.toInt = n → n < 5 → a.toNatClampNeg = n → zin a 5 = true → z2 (k 1 σ) (k' 1 τ) P) : z2 (zbd (f_X6_isSlot a σ) k) (zbd (f_X7_isSlot a τ) k') P := by
  have e0 := zt_0
  have e4 := zt_4
  by_cases c : 0 ≤ a.toInt ∧ a.toInt ≤ 4
  · have i1 : f_X6_isSlot a σ = some (1, σ) := by
      unfold f_X6_isSlot
      rw [c_within1 σ (by rw [e0, e4]; exact c)]
      rfl
    have i2 : f_X7_isSlot a τ = some (1, τ) := by
      unfold f_X7_isSlot
      rw [r_isIn1 τ (by rw [e0, e4]; exact c)]
      rfl
    exact z2_eL i1 (z2_eR i2 (h1 a.toInt.toNat (by omega) (by omega) (zTn (zTs a) (by omega)) (zin_mk c.1 (by omega))))
  · have i1 : f_X6_isSlot a σ = some (0, σ) := by
      unfold f_X6_isSlot
      rw [c_within0 σ (by rw [e0, e4]; exact c)]
      rfl
    have i2 : f_X7_isSlot a τ = some (0, τ) := by
      unfold f_X7_isSlot
      rw [r_isIn0 τ (by rw [e0, e4]; exact c)]
      rfl
    exact z2_eL i1 (z2_eR i2 h0)
theorem z2_sheet {σ τ : zg_S} {a : Int32} {k k' : Int32 → zg_S → Option (Int32 × zg_S)} {P : Int32 → zg_S → Int32 → zg_S → Prop} (h0 : z2 (k 0 σ) (k' 0 τ) P) (h1 : ∀ n : Nat, a.toInt = n → n < 4 → a.toNatClampNeg = n → zin a 4 = true → z2 (k 1 σ) (k' 1 τ) P) : z2 (zbd (f_X6_isSheet a σ) k) (zbd (f_X7_isSheet a τ) k') P := by
  have e0 := zt_0
  have e3 := zt_3
  by_cases c : 0 ≤ a.toInt ∧ a.toInt ≤ 3
  · have i1 : f_X6_isSheet a σ = some (1, σ) := by
      unfold f_X6_isSheet
      rw [c_within1 σ (by rw [e0, e3]; exact c)]
      rfl
    have i2 : f_X7_isSheet a τ = some (1, τ) := by
      unfold f_X7_isSheet
      rw [r_isIn1 τ (by rw [e0, e3]; exact c)]
      rfl
    exact z2_eL i1 (z2_eR i2 (h1 a.toInt.toNat (by omega) (by omega) (zTn (zTs a) (by omega)) (zin_mk c.1 (by omega))))
  · have i1 : f_X6_isSheet a σ = some (0, σ) := by
      unfold f_X6_isSheet
      rw [c_within0 σ (by rw [e0, e3]; exact c)]
      rfl
    have i2 : f_X7_isSheet a τ = some (0, τ) := by
      unfold f_X7_isSheet
      rw [r_isIn0 τ (by rw [e0, e3]; exact c)]
      rfl
    exact z2_eL i1 (z2_eR i2 h0)
theorem v_rest {σ τ : zg_S} (h : RR σ τ) (a b : Int32) : z2 (f_X6_rest a b σ) (f_X7_rest a b τ) SM := by
  refine ro h ?_ (w_X6_rest a b σ) (w_X7_rest a b τ) (W0 (fun _ _ z => z)) (W1 (fun _ _ z => z))
  unfold f_X6_rest f_X7_rest f_X3_refuses
  refine z2_slot (z2_pL rfl (z2_pR rfl (z2_some rfl))) (fun n hn h5 en zi => z2_nL one_ne (z2_nR one_ne (z2_pL zi (z2_pR zi ?_))))
  rw [en]
  obtain ⟨x, y⟩ := h.2.2.2.2.2 n h5
  rw [x]
  rcases y with y | ⟨y, _⟩ | ⟨y, _⟩ | ⟨y, y1⟩
  · rw [y]
    exact z2_eL rfl (z2_nL (by decide) (z2_nR (by decide) (z2_pR rfl (z2_some rfl))))
  · rw [y]
    exact z2_eL rfl (z2_nL (by decide) (z2_nR (by decide) (z2_nR (by decide) (z2_some rfl))))
  · rw [y]
    exact z2_eL rfl (z2_nL (by decide) (z2_nR (by decide) (z2_nR (by decide) (z2_some rfl))))
  · rw [y]
    refine z2_eL rfl (z2_pL rfl (z2_pR rfl ?_))
    refine z2_iL (fun hb => z2_pR hb (z2_some rfl)) (fun hb => z2_nR hb (z2_nL hb (z2_nR hb (z2_some ?_))))
    rw [y1]
theorem v_ask {σ τ : zg_S} (h : RR σ τ) (a b : Int32) : z2 (f_X6_ask a b σ) (f_X7_ask a b τ) SM := by
  refine ro h ?_ (w_X6_ask a b σ) (w_X7_ask a b τ) (W0 (fun _ _ z => z)) (W1 (fun _ _ z => z))
  have e0 := zt_0
  have e5 := zt_5
  unfold f_X6_ask f_X7_ask f_X3_refuses
  refine z2_slot (z2_pL rfl (z2_pR rfl (z2_some rfl))) (fun n hn h5 en zi => z2_nL one_ne (z2_nR one_ne ?_))
  refine z2_within (fun _ => z2_pL rfl (z2_pR rfl (z2_some rfl))) (fun h1 h2 => z2_nL one_ne (z2_nR one_ne (z2_pL zi (z2_pR zi ?_))))
  rw [en]
  obtain ⟨x, y⟩ := h.2.2.2.2.2 n h5
  rw [x]
  rcases y with y | ⟨y, y1, y2, y3⟩ | ⟨y, _⟩ | ⟨y, _⟩
  · rw [y]
    exact z2_eL rfl (z2_nL (by decide) (z2_pR rfl (z2_some rfl)))
  · rw [y]
    refine z2_eL rfl (z2_pL rfl (z2_nR (by decide) (z2_pR rfl ?_)))
    have ci := c_isOf (61 + 4 * n + 1) b σ (by rw [y1]; exact y3) ⟨by omega, by omega⟩
    rw [y1] at ci
    refine z2_eL ci (z2_eR (r_isOf _ _ _) ?_)
    refine z2_iL (fun hz => z2_pR hz (z2_some rfl)) (fun hz => z2_nR hz (z2_eL (c_worth _ _) (z2_some y2)))
  · rw [y]
    exact z2_eL rfl (z2_nL (by decide) (z2_nR (by decide) (z2_nR (by decide) (z2_some rfl))))
  · rw [y]
    exact z2_eL rfl (z2_nL (by decide) (z2_nR (by decide) (z2_nR (by decide) (z2_some rfl))))
theorem c_hasPlace1 {q : Nat} {a : Int32} {σ : zg_S} (hl : 0 ≤ (σ q 1).toInt) (h : 0 ≤ a.toInt ∧ a.toInt < (σ q 1).toInt) : f_X2_hasPlace q a σ = some (1, σ) := by
  have e0 := zt_0
  have e1 := zt_1
  have hb := Int32.toInt_lt (σ q 1)
  have e := zTe (zTsub (zTs (σ q 1)) (zTl zt_1) (by omega) (by omega))
  unfold f_X2_hasPlace
  rw [c_within1 σ ⟨by omega, by rw [e]; omega⟩]
  rfl
theorem c_hasPlace0 {q : Nat} {a : Int32} {σ : zg_S} (hl : 0 ≤ (σ q 1).toInt) (h : ¬ (0 ≤ a.toInt ∧ a.toInt < (σ q 1).toInt)) : f_X2_hasPlace q a σ = some (0, σ) := by
  have e0 := zt_0
  have e1 := zt_1
  have hb := Int32.toInt_lt (σ q 1)
  have e := zTe (zTsub (zTs (σ q 1)) (zTl zt_1) (by omega) (by omega))
  unfold f_X2_hasPlace
  rw [c_within0 σ (by rw [e]; omega)]
  rfl
/-- the reference's way to ask for a place -/
theorem r_place1 {a n : Int32} {τ : zg_S} (hl : 0 ≤ n.toInt) (h : 0 ≤ a.toInt ∧ a.toInt < n.toInt) : f_X7_isIn (Int32.toInt64 a) (Int32.toInt64 0) (Int32.toInt64 (n - 1)) τ = some (1, τ) := by
  have e0 := zt_0
  have e1 := zt_1
  have hb := Int32.toInt_lt n
  have e := zTe (zTsub (zTs n) (zTl zt_1) (by omega) (by omega))
  exact r_isIn1 τ ⟨by omega, by rw [e]; omega⟩
theorem r_place0 {a n : Int32} {τ : zg_S} (hl : 0 ≤ n.toInt) (h : ¬ (0 ≤ a.toInt ∧ a.toInt < n.toInt)) : f_X7_isIn (Int32.toInt64 a) (Int32.toInt64 0) (Int32.toInt64 (n - 1)) τ = some (0, τ) := by
  have e0 := zt_0
  have e1 := zt_1
  have hb := Int32.toInt_lt n
  have e := zTe (zTsub (zTs n) (zTl zt_1) (by omega) (by omega))
  exact r_isIn0 τ (by rw [e]; omega)
theorem v_item {σ τ : zg_S} (h : RR σ τ) (hM : IMc τ) (a b : Int32) : z2 (f_X6_item a b σ) (f_X7_item a b τ) SM := by
  refine ro h ?_ (w_X6_item a b σ) (w_X7_item a b τ) (W0 (fun _ _ z => z)) (W1 (fun _ _ z => z))
  have e24 := zt_24
  unfold f_X6_item f_X7_item f_X3_refuses
  refine z2_slot (z2_pL rfl (z2_pR rfl (z2_some rfl))) (fun n hn h5 en zi => z2_nL one_ne (z2_nR one_ne (z2_pL zi (z2_pR zi ?_))))
  rw [en]
  have f10 : 0 ≤ (τ 10 n).toInt ∧ (τ 10 n).toInt ≤ 24 := hM 10 n
  obtain ⟨x, y⟩ := h.2.2.2.2.2 n h5
  rw [x]
  rcases y with y | ⟨y, _⟩ | ⟨y, y1, y2⟩ | ⟨y, _⟩
  · rw [y]
    exact z2_eL rfl (z2_nL (by decide) (z2_nR (by decide) (z2_pR rfl (z2_some rfl))))
  · rw [y]
    exact z2_eL rfl (z2_nL (by decide) (z2_nR (by decide) (z2_nR (by decide) (z2_some rfl))))
  · rw [y]
    refine z2_eL rfl (z2_pL rfl (z2_pR rfl ?_))
    by_cases c : 0 ≤ b.toInt ∧ b.toInt < (τ 10 n).toInt
    · have nb := ztn c.1
      have hp := c_hasPlace1 (q := 61 + 4 * n + 2) (a := b) (σ := σ) (by rw [y1]; exact f10.1) (by rw [y1]; exact c)
      refine z2_eL hp (z2_nL one_ne ?_)
      refine z2_eR (r_place1 f10.1 c) (z2_nR one_ne ?_)
      have pi := zTadd (zTmul (zTl zt_24) (zTs a) (by omega) (by omega)) (zTs b) (by omega) (by omega)
      have ii := zTn pi (show (24 * a.toInt + b.toInt : Int) = ((24 * n + b.toNatClampNeg : Nat) : Int) by omega)
      have zb : zin b 24 = true := zin_mk c.1 (by omega)
      have yv := y2 b.toNatClampNeg (by omega)
      have hN : f_X2_hasNumber (61 + 4 * n + 2) b σ = some (if τ 11 (24 * n + b.toNatClampNeg) = -1000000005 then 0 else 1, σ) := by
        unfold f_X2_hasNumber
        rw [hp, zbd_s, if_neg one_ne, if_pos zb, yv]
        by_cases d : τ 11 (24 * n + b.toNatClampNeg) = -1000000005
        · rw [if_pos d, if_pos d]
        · rw [if_neg d, if_neg d]
      refine z2_eL hN (z2_pR (zin_mkT pi (by omega) (by omega)) (z2_lR (fun v ev => ?_)))
      rw [ii] at ev
      rw [ev]
      by_cases d : τ 11 (24 * n + b.toNatClampNeg) = -1000000005
      · rw [if_pos d]
        exact z2_pL rfl (z2_pR d (z2_some rfl))
      · rw [if_neg d]
        exact z2_nL one_ne (z2_nR d (z2_pL zb (z2_some yv)))
    · refine z2_eL (c_hasPlace0 (by rw [y1]; exact f10.1) (by rw [y1]; exact c)) (z2_pL rfl ?_)
      exact z2_eR (r_place0 f10.1 c) (z2_pR rfl (z2_some rfl))
  · rw [y]
    exact z2_eL rfl (z2_nL (by decide) (z2_nR (by decide) (z2_nR (by decide) (z2_some rfl))))
end
section
/-! stalls come -/
def sOpen (g : Nat → Int32) (a b c : Int32) : Nat → Int32 := upd (upd (upd (upd (upd g 0 (g 0 + 1)) (11 + 4 * (g 0).toNatClampNeg + 0) a) (11 + 4 * (g 0).toNatClampNeg + 1) b) (11 + 4 * (g 0).toNatClampNeg + 2) 100) (11 + 4 * (g 0).toNatClampNeg + 3) c
theorem sOpen_c {g : Nat → Int32} {a b c : Int32} {i : Nat} (h0 : i ≠ 0) (h : i < 11 + 4 * (g 0).toNatClampNeg ∨ 11 + 4 * (g 0).toNatClampNeg + 3 < i) : sOpen g a b c i = g i := by
  unfold sOpen
  rw [pk_un (by omega), pk_un (by omega), pk_un (by omega), pk_un (by omega), pk_un h0]
theorem sOpen_0 {g : Nat → Int32} {a b c : Int32} : sOpen g a b c 0 = g 0 + 1 := by
  unfold sOpen
  rw [pk_un (by omega), pk_un (by omega), pk_un (by omega), pk_un (by omega), pk_us]
theorem sOpen_s {g : Nat → Int32} {a b c : Int32} : sOpen g a b c (11 + 4 * (g 0).toNatClampNeg) = a ∧ sOpen g a b c (11 + 4 * (g 0).toNatClampNeg + 1) = b ∧ sOpen g a b c (11 + 4 * (g 0).toNatClampNeg + 2) = 100 ∧ sOpen g a b c (11 + 4 * (g 0).toNatClampNeg + 3) = c := by
  unfold sOpen
  refine ⟨?_, ?_, ?_, ?_⟩
  · rw [pk_un (by omega), pk_un (by omega), pk_un (by omega)]
    exact pk_us
  · rw [pk_un (by omega), pk_un (by omega), pk_us]
  · rw [pk_un (by omega), pk_us]
  · rw [pk_us]
theorem sOpen_ok {g : Nat → Int32} {a b c : Int32} (o : gOK g) (hN : (g 0).toInt < 9) (ha : 0 ≤ a.toInt ∧ a.toInt ≤ 5) (hb : 0 ≤ b.toInt ∧ b.toInt ≤ 11) (hc : 0 ≤ c.toInt ∧ c.toInt ≤ 99) : gOK (sOpen g a b c) := by
  obtain ⟨n0, n2, n8, n7, n9, n10⟩ := id o.1
  have nn := ztn n0.1
  have e1 := zt_1
  have ea := zTe (zTadd (zTs (g 0)) (zTl zt_1) (by omega) (by omega))
  refine o.tx ⟨sOpen_c (by decide) (by omega), fun i hi => sOpen_c (by omega) (by omega)⟩ ?_ (fun k hk => ?_)
  · unfold gB
    rw [sOpen_0, sOpen_c (by decide) (by omega), sOpen_c (i := 8) (by decide) (by omega), sOpen_c (i := 7) (by decide) (by omega), sOpen_c (i := 9) (by decide) (by omega), sOpen_c (i := 10) (by decide) (by omega), ea]
    exact ⟨by omega, n2, n8, n7, n9, n10⟩
  · rw [sOpen_0, ea] at hk
    by_cases e : k = (g 0).toNatClampNeg
    · subst e
      obtain ⟨s0, s1, s2, s3⟩ := sOpen_s (g := g) (a := a) (b := b) (c := c)
      unfold gSb
      rw [s0, s1, s2, s3]
      exact ⟨ha, hb, by decide, hc⟩
    · exact gSb_eq (fun j hj => sOpen_c (by omega) (by omega)) (o.2.1 k (by omega))
theorem sOpen_st {g : Nat → Int32} {a b c : Int32} (hN : 0 ≤ (g 0).toInt ∧ (g 0).toInt < 9) : STx g (sOpen g a b c) := by
  have nn := ztn hN.1
  exact ⟨sOpen_c (by decide) (by omega), fun i hi => sOpen_c (by omega) (by omega)⟩
theorem sOpen_C {g : Nat → Int32} {a b c : Int32} (h : gC g) : gC (sOpen g a b c) := by
  unfold gC
  rw [sOpen_c (i := 3) (by decide) (by omega), sOpen_c (i := 2) (by decide) (by omega), sOpen_c (i := 4) (by decide) (by omega), sOpen_c (i := 5) (by decide) (by omega)]
  exact h
theorem c_open {σ : zg_S} {p : Nat} {g : Nat → Int32} (h : EQB σ p g) (hT : TXR σ p g) (hp : 53 ≤ p) (hn : (g 1).toInt ≤ 14) (hN : 0 ≤ (g 0).toInt ∧ (g 0).toInt < 9) (a b c : Int32) : zk (f_X0_open p a b c σ) (fun r s => r = g 0 ∧ EQB s p (sOpen g a b c) ∧ TXR s p (sOpen g a b c)) := by
  have nn := ztn hN.1
  have e9 := zt_m9
  have e1 := zt_1
  have ea := zTe (zTadd (zTs (g 0)) (zTl zt_1) (by omega) (by omega))
  suffices hz : zk (f_X0_open p a b c σ) (fun r s => r = g 0 ∧ EQB s p (sOpen g a b c)) from zk_mono (zk_w hz (w_X0_open p a b c σ)) (fun r s hq => ⟨hq.1.1, hq.1.2, (hT.wr hn (fun k => hq.2 _ k (by unfold W_X0_open; omega)) (fun q k _ _ _ => hq.2 q k (by unfold W_X0_open; omega))).st (sOpen_st hN)⟩)
  unfold f_X0_open
  rw [show σ p 3 = g 0 from h.f 0 (by decide)]
  refine zk_ite (fun _ => ?_) (fun z => absurd (lt_i (by omega)) z)
  refine zk_in (zin_mk hN.1 (by omega)) ?_
  refine zk_let (fun s1 q1 => zk_let (fun s2 q2 => zk_let (fun s3 q3 => zk_let (fun s4 q4 => zk_let (fun s5 q5 => ?_)))))
  have fr : ∀ r, r ≠ p + 1 + 2 + (g 0).toNatClampNeg → s4 r = σ r := fun r hr => by
    rw [q4]; refine (zg_row_ne hr).trans ?_
    rw [q3]; refine (zg_row_ne hr).trans ?_
    rw [q2]; refine (zg_row_ne hr).trans ?_
    rw [q1]; exact zg_row_ne hr
  have v0 : s4 (p + 1 + 2 + (g 0).toNatClampNeg) 0 = a := by
    rw [q4]; refine (zkeepf rfl).trans ?_
    rw [q3]; refine (zkeepf rfl).trans ?_
    rw [q2]; refine (zkeepf rfl).trans ?_
    rw [q1]; exact zgot
  have v1 : s4 (p + 1 + 2 + (g 0).toNatClampNeg) 1 = b := by
    rw [q4]; refine (zkeepf rfl).trans ?_
    rw [q3]; refine (zkeepf rfl).trans ?_
    rw [q2]; exact zgot
  have v2 : s4 (p + 1 + 2 + (g 0).toNatClampNeg) 2 = 100 := by
    rw [q4]; refine (zkeepf rfl).trans ?_
    rw [q3]; exact zgot
  have v3 : s4 (p + 1 + 2 + (g 0).toNatClampNeg) 3 = c := by rw [q4]; exact zgot
  have k3 : s4 p 3 = g 0 := (congrFun (fr p (by omega)) 3).trans (h.f 0 (by decide))
  rw [k3] at q5
  have w3 : s5 p 3 = g 0 + 1 := by rw [q5]; exact zgot
  have f5 : ∀ r, r ≠ p → s5 r = s4 r := fun r hr => by rw [q5]; exact zg_row_ne hr
  refine zk_some ⟨by rw [w3]; exact Int32.add_sub_cancel _ _, fun i hi => ?_, fun k j hk hj => ?_⟩
  · by_cases e : i = 0
    · subst e
      rw [sOpen_0]
      exact w3
    · rw [sOpen_c e (by omega), q5]
      exact (zkeepn (fun z => e (fm_inj i hi 0 (by decide) z))).trans ((congrFun (fr p (by omega)) _).trans (h.1 i hi))
  · rw [sOpen_0, ea] at hk
    rw [f5 _ (by omega)]
    by_cases e : k = (g 0).toNatClampNeg
    · subst e
      obtain ⟨s0, s1', s2', s3'⟩ := sOpen_s (g := g) (a := a) (b := b) (c := c)
      match j, hj with
      | 0, _ => exact v0.trans s0.symm
      | 1, _ => exact v1.trans s1'.symm
      | 2, _ => exact v2.trans s2'.symm
      | 3, _ => exact v3.trans s3'.symm
    · rw [sOpen_c (by omega) (by omega), fr _ (by omega)]
      exact h.2 k j (by omega) hj
theorem r_comes {τ : zg_S} {g : Nat → Int32} (h1 : τ 1 = g) (hN : 0 ≤ (g 0).toInt ∧ (g 0).toInt < 9) (a b c : Int32) : zk (f_X7_comes a b c τ) (fun _ t => t 1 = sOpen g a b c) := by
  have nn := ztn hN.1
  have hn : (g 0).toInt = (g 0).toNatClampNeg := by omega
  unfold f_X7_comes
  rw [h1]
  refine zk_let (fun s0 q0 => ?_)
  have r0 : s0 1 = upd g 0 (g 0 + 1) := by rw [q0]; exact up_row h1
  refine zk_e (r_sets r0 hn (by omega) zt_0 (by decide)) ?_
  have r1 := up_row (k := 11 + 4 * (g 0).toNatClampNeg + 0) (v := a) r0
  refine zk_e (r_sets r1 hn (by omega) zt_1 (by decide)) ?_
  have r2 := up_row (k := 11 + 4 * (g 0).toNatClampNeg + 1) (v := b) r1
  refine zk_e (r_sets r2 hn (by omega) zt_2 (by decide)) ?_
  have r3 := up_row (k := 11 + 4 * (g 0).toNatClampNeg + 2) (v := 100) r2
  refine zk_e (r_sets r3 hn (by omega) zt_3 (by decide)) ?_
  exact zk_some (up_row r3)
theorem v_stall {σ τ : zg_S} (h : RR σ τ) (a b c : Int32) : z2 (f_X6_stall a b c σ) (f_X7_stall a b c τ) SM := by
  have e0 := zt_0
  have e1 := zt_1
  have e5 := zt_5
  have e11 := zt_11
  have e99 := zt_99
  have e9 := zt_m9
  have o := h.1.2.2.1
  obtain ⟨n0, _⟩ := id o.1
  unfold f_X6_stall f_X7_stall
  refine z2_within (fun _ => z2_pL rfl (z2_pR rfl (z2_some (SM.rf h)))) (fun a1 a2 => z2_nL one_ne (z2_nR one_ne ?_))
  refine z2_within (fun _ => z2_pL rfl (z2_pR rfl (z2_some (SM.rf h)))) (fun b1 b2 => z2_nL one_ne (z2_nR one_ne ?_))
  refine z2_within (fun _ => z2_pL rfl (z2_pR rfl (z2_some (SM.rf h)))) (fun c1 c2 => z2_nL one_ne (z2_nR one_ne ?_))
  rw [show σ 153 3 = τ 1 0 from h.f 0 (by decide)]
  refine z2_iL (fun hc => ?_) (fun hc => ?_)
  · have gc := zlt hc
    refine z2_nR (fun z => by have := zeq z; omega) ?_
    have hN : 0 ≤ (τ 1 0).toInt ∧ (τ 1 0).toInt < 9 := ⟨n0.1, by omega⟩
    refine z2_cL (zk_w (c_open h.1.1 h.1.2.1 (by decide) o.2.2.1.2 hN a b c) (w_X0_open 153 a b c σ)) (fun r s hp => ?_)
    refine z2_cR (zk_w (r_comes rfl hN a b c) (w_X7_comes a b c τ)) (fun r' t hp' => ?_)
    obtain ⟨⟨hr, hE, hT⟩, hw⟩ := hp
    obtain ⟨ht, hw'⟩ := hp'
    refine z2_some ⟨by rw [hr, ht, sOpen_0]; exact (Int32.add_sub_cancel _ _).symm, h.now (fun p k hp => hw p k (fun z => ?_)) (fun p k hp => hw' p k (fun z => ?_)) ?_ ?_⟩
    · unfold W_X0_open at z
      unfold sideC at hp
      omega
    · unfold W_X7_comes at z
      unfold sideM at hp
      omega
    · rw [ht, sOpen_c (by decide) (by omega)]
      exact Int.le_refl _
    · rw [ht]
      exact ⟨hE, hT, sOpen_ok o hN.2 (by omega) (by omega) (by omega), sOpen_C h.1.2.2.2.1, by rw [sOpen_c (i := 2) (by decide) (by omega)]; exact h.1.2.2.2.2⟩
  · have gc := znlt hc
    exact z2_pR (Int32.toInt_inj.mp (by omega)) (z2_some (SM.rf h))
/-! stalls by lot -/
theorem sD_b (z : Int32) : 0 ≤ (sD z).toInt ∧ (sD z).toInt < 16777216 := by
  have e : (sD z).toBitVec.toNat = z.toBitVec.toNat / 2 ^ 8 := pk_ushr z 8 8 (by decide)
  have hb := z.toBitVec.isLt
  have h2 : (sD z).toInt = (sD z).toBitVec.toInt := rfl
  have h3 : (sD z).toBitVec.toInt = (sD z).toBitVec.toNat := BitVec.toInt_eq_toNat_of_lt (by rw [e]; omega)
  rw [h2, h3, e]
  omega
def sDe (g : Nat → Int32) : Nat → Int32 := sOpen (upd g 6 (sZ (sZ (sZ (g 6))))) (sD (sZ (g 6)) - sD (sZ (g 6)) / 6 * 6) (sD (sZ (sZ (g 6))) - sD (sZ (sZ (g 6))) / 12 * 12) (sD (sZ (sZ (sZ (g 6)))) - sD (sZ (sZ (sZ (g 6)))) / 40 * 40)
def sDn (g : Nat → Int32) : Nat → Nat → Int32
  | 0 => g
  | n + 1 => sDe (sDn g n)
theorem sDe_ok {g : Nat → Int32} (o : gOK g) (hN : (g 0).toInt < 9) : gOK (sDe g) := by
  have a := zrem (sD (sZ (g 6))) 6 6 zt_6 (by decide) (by decide) (sD_b _).1
  have b := zrem (sD (sZ (sZ (g 6)))) 12 12 zt_12 (by decide) (by decide) (sD_b _).1
  have c := zrem (sD (sZ (sZ (sZ (g 6))))) 40 40 zt_40 (by decide) (by decide) (sD_b _).1
  exact sOpen_ok (o.lo (Or.inr (Or.inr (Or.inr rfl)))) (by rw [pk_un (by decide)]; exact hN) (by rw [a]; omega) (by rw [b]; omega) (by rw [c]; omega)
theorem sDe_c {g : Nat → Int32} {i : Nat} (h : i = 1 ∨ i = 2 ∨ i = 3 ∨ i = 4 ∨ i = 5) : sDe g i = g i := by
  unfold sDe
  rw [sOpen_c (by omega) (by omega), pk_un (by omega)]
theorem sDe_0 {g : Nat → Int32} : sDe g 0 = g 0 + 1 := by
  unfold sDe
  rw [sOpen_0, pk_un (by decide)]
theorem sDe_st {g : Nat → Int32} (hN : 0 ≤ (g 0).toInt ∧ (g 0).toInt < 9) : STx g (sDe g) := (STx.rf.up (i := 6) (v := sZ (sZ (sZ (g 6)))) (by decide) (by decide)).tr (sOpen_st (by rw [pk_un (by decide)]; exact hN))
theorem sDn_ok {g : Nat → Int32} (o : gOK g) (hC : gC g) (h99 : (g 2).toInt ≤ 9999) : ∀ n : Nat, (g 0).toInt + n ≤ 9 → gOK (sDn g n) ∧ gC (sDn g n) ∧ (sDn g n 2).toInt ≤ 9999 ∧ (sDn g n 0).toInt = (g 0).toInt + n ∧ sDn g n 1 = g 1 := by
  obtain ⟨n0, _⟩ := id o.1
  have e1 := zt_1
  intro n
  induction n with
  | zero => intro _; exact ⟨o, hC, h99, by show (g 0).toInt = _; omega, rfl⟩
  | succ n ih =>
    intro hn
    obtain ⟨a, b, c, d, e⟩ := ih (by omega)
    have ea := zTe (zTadd (zTs (sDn g n 0)) (zTl zt_1) (by omega) (by omega))
    refine ⟨sDe_ok a (by omega), ?_, ?_, ?_, ?_⟩
    · show gC (sDe (sDn g n))
      unfold gC
      rw [sDe_c (i := 3) (by omega), sDe_c (i := 2) (by omega), sDe_c (i := 4) (by omega), sDe_c (i := 5) (by omega)]
      exact b
    · show (sDe (sDn g n) 2).toInt ≤ 9999
      rw [sDe_c (i := 2) (by omega)]
      exact c
    · show (sDe (sDn g n) 0).toInt = _
      rw [sDe_0, ea]
      omega
    · show sDe (sDn g n) 1 = g 1
      rw [sDe_c (i := 1) (by omega)]
      exact e
theorem c_deal1 {σ : zg_S} {p : Nat} {g : Nat → Int32} (h : EQB σ p g) (hT : TXR σ p g) (hp : 53 ≤ p) (hn : (g 1).toInt ≤ 14) (hN : 0 ≤ (g 0).toInt ∧ (g 0).toInt < 9) {k : Int32 → zg_S → Option (Int32 × zg_S)} {P : Int32 → zg_S → Prop} (hk : ∀ r s, EQB s p (sDe g) → TXR s p (sDe g) → zk (k r s) P) : zk (zbd (f_X0_draw p σ) (fun r4 σ5 => zbd (f_X0_draw p σ5) (fun r13 σ14 => zbd (f_X0_draw p σ14) (fun r22 σ23 => zbd (f_X0_open p (r4 - r4 / 6 * 6) (r13 - r13 / 12 * 12) (r22 - r22 / 40 * 40) σ23) k)))) P := by
  refine zk_e (c_draw h) ?_
  have h1 : EQB (zg_up σ p 13 (sZ (g 6))) p (upd g 6 (sZ (g 6))) := h.up 6 (by decide) (by decide) rfl
  have T1 := (txr_up (k := 13) (v := sZ (g 6)) hT hn (by omega) hp)
  have d2 := c_draw h1
  rw [pk_us] at d2
  refine zk_e d2 ?_
  have h2 := h1.up (v := sZ (sZ (g 6))) 6 (by decide) (by decide) (f := 13) rfl
  rw [upd_upd] at h2
  have T2 := (txr_up (k := 13) (v := sZ (sZ (g 6))) T1 hn (by omega) hp)
  have d3 := c_draw h2
  rw [pk_us] at d3
  refine zk_e d3 ?_
  have h3 := h2.up (v := sZ (sZ (sZ (g 6)))) 6 (by decide) (by decide) (f := 13) rfl
  rw [upd_upd] at h3
  have T3 := (txr_up (k := 13) (v := sZ (sZ (sZ (g 6)))) T2 hn (by omega) hp).st (STx.rf.up (i := 6) (v := sZ (sZ (sZ (g 6)))) (by decide) (by decide))
  refine zk_call (c_open h3 T3 hp (by rw [pk_un (by decide)]; exact hn) (by rw [pk_un (by decide)]; exact hN) _ _ _) (fun r s hq => hk r s hq.2.1 hq.2.2)
theorem r_deal1 {τ : zg_S} {g : Nat → Int32} (h1 : τ 1 = g) (hN : 0 ≤ (g 0).toInt ∧ (g 0).toInt < 9) {k : Int32 → zg_S → Option (Int32 × zg_S)} {P : Int32 → zg_S → Prop} (hk : ∀ r s, s 1 = sDe g → zk (k r s) P) : zk (zbd (f_X7_drawn τ) (fun r7 σ8 => zbd (f_X7_drawn σ8) (fun r16 σ17 => zbd (f_X7_drawn σ17) (fun r25 σ26 => zbd (f_X7_comes (r7 - r7 / 6 * 6) (r16 - r16 / 12 * 12) (r25 - r25 / 40 * 40) σ26) k)))) P := by
  refine zk_e (r_drawn h1) ?_
  have d1 : zg_up τ 1 6 (sZ (g 6)) 1 = upd g 6 (sZ (g 6)) := up_row h1
  have x2 := r_drawn d1
  rw [pk_us] at x2
  refine zk_e x2 ?_
  have d2 : zg_up (zg_up τ 1 6 (sZ (g 6))) 1 6 (sZ (sZ (g 6))) 1 = upd g 6 (sZ (sZ (g 6))) := by rw [up_row d1, upd_upd]
  have x3 := r_drawn d2
  rw [pk_us] at x3
  refine zk_e x3 ?_
  have d3 : zg_up (zg_up (zg_up τ 1 6 (sZ (g 6))) 1 6 (sZ (sZ (g 6)))) 1 6 (sZ (sZ (sZ (g 6)))) 1 = upd g 6 (sZ (sZ (sZ (g 6)))) := by rw [up_row d2, upd_upd]
  exact zk_call (r_comes d3 (by rw [pk_un (by decide)]; exact hN) _ _ _) (fun r s hq => hk r s hq)
theorem v_deal {σ τ : zg_S} (h : RR σ τ) (a : Int32) : z2 (f_X6_deal a σ) (f_X7_deal a τ) SM := by
  have e0 := zt_0
  have e1 := zt_1
  have e9 := zt_m9
  have o := h.1.2.2.1
  obtain ⟨n0, _⟩ := id o.1
  have hw1 := w_X6_deal a σ
  have hw2 := w_X7_deal a τ
  suffices hz : z2 (f_X6_deal a σ) (f_X7_deal a τ) (fun r s r' t => r = r' ∧ ∃ m : Nat, (τ 1 0).toInt + m ≤ 9 ∧ EQB s 153 (sDn (τ 1) m) ∧ TXR s 153 (sDn (τ 1) m) ∧ t 1 = sDn (τ 1) m) by
    refine z2_mono (z2_w hz hw1 hw2) (fun r s r' t q => ?_)
    obtain ⟨⟨hr, m, hm, hE, hT, ht⟩, a1, b1⟩ := q
    obtain ⟨x1, x2, x3, x4, x5⟩ := sDn_ok o h.1.2.2.2.1 h.1.2.2.2.2 m hm
    refine ⟨hr, h.now (fun p k hp => a1 p k (fun z => ?_)) (fun p k hp => b1 p k (fun z => ?_)) (by rw [ht, x5]; exact Int.le_refl _) (by rw [ht]; exact ⟨hE, hT, x1, x2, x3⟩)⟩
    · unfold W_X6_deal at z
      unfold sideC at hp
      omega
    · unfold W_X7_deal at z
      unfold sideM at hp
      omega
  unfold f_X6_deal f_X7_deal
  refine z2_within (fun _ => z2_pL rfl (z2_pR rfl (z2_some ⟨rfl, 0, by omega, h.1.1, h.1.2.1, rfl⟩))) (fun a1 a2 => z2_nL one_ne (z2_nR one_ne ?_))
  rw [show σ 153 3 = τ 1 0 from h.f 0 (by decide)]
  have es := zTe (zTsub (zTl zt_m9) (zTs (τ 1 0)) (by omega) (by omega))
  refine z2_lL (fun y ey => ?_)
  have hy : y.toInt = min a.toInt (9 - (τ 1 0).toInt) := by
    rw [ey]
    by_cases c : 9 - τ 1 0 < a
    · rw [if_pos c]
      have := zlt c
      omega
    · rw [if_neg c]
      have := znlt c
      omega
  have C : zk (L_X6_deal_30 a zfu y 0 σ) (fun r s => r = y ∧ EQB s 153 (sDn (τ 1) y.toInt.toNat) ∧ TXR s 153 (sDn (τ 1) y.toInt.toNat)) := by
    unfold L_X6_deal_30
    refine zl_II (fun (x2 x3 : Int32) (s : zg_S) => x2 = y ∧ ∃ i : Nat, x3.toInt = i ∧ (i : Int) ≤ y.toInt ∧ EQB s 153 (sDn (τ 1) i) ∧ TXR s 153 (sDn (τ 1) i)) (fun (_ x3 : Int32) (_ : zg_S) => (9 - x3.toInt).toNat) ?_ zfu _ _ _ ⟨rfl, 0, e0, by omega, h.1.1, h.1.2.1⟩ (by unfold zfu; omega)
    intro rec x2 x3 s hI ih
    obtain ⟨rfl, i, hi, hi2, hE, hT⟩ := hI
    unfold B_X6_deal_30
    refine zk_ite (fun hle => ?_) (fun hlt => ?_)
    · have := zle hle
      exact zk_some ⟨rfl, by rw [show x2.toInt.toNat = i by omega]; exact ⟨hE, hT⟩⟩
    · have gl := znle hlt
      obtain ⟨x1, _, _, x4, x5⟩ := sDn_ok o h.1.2.2.2.1 h.1.2.2.2.2 i (by omega)
      have ex := zTe (zTadd (zTs x3) (zTl zt_1) (by omega) (by omega))
      refine c_deal1 hE hT (by decide) (by rw [x5]; exact o.2.2.1.2) (by omega) (fun r t hE' hT' => ?_)
      exact ih x2 (x3 + 1) t ⟨rfl, i + 1, by rw [ex, hi]; rfl, by omega, hE', hT'⟩ (by show (9 - (x3 + 1).toInt).toNat < (9 - x3.toInt).toNat; rw [ex]; omega)
  have D : zk (L_X7_deal_17 a zfu 0 τ) (fun r t => r = y ∧ t 1 = sDn (τ 1) y.toInt.toNat) := by
    unfold L_X7_deal_17
    refine zl_I (fun (x2 : Int32) (s : zg_S) => ∃ i : Nat, x2.toInt = i ∧ (i : Int) ≤ y.toInt ∧ s 1 = sDn (τ 1) i) (fun (x2 : Int32) (_ : zg_S) => (9 - x2.toInt).toNat) ?_ zfu _ _ ⟨0, e0, by omega, rfl⟩ (by unfold zfu; omega)
    intro rec x2 s hI ih
    obtain ⟨i, hi, hi2, hs⟩ := hI
    obtain ⟨x1, _, _, x4, x5⟩ := sDn_ok o h.1.2.2.2.1 h.1.2.2.2.2 i (by omega)
    have fin : (i : Int) = y.toInt → zk (some (x2, s)) (fun r t => r = y ∧ t 1 = sDn (τ 1) y.toInt.toNat) := fun he => zk_some ⟨Int32.toInt_inj.mp (by omega), by rw [show y.toInt.toNat = i by omega]; exact hs⟩
    unfold B_X7_deal_17
    rw [show s 1 0 = sDn (τ 1) i 0 from congrFun hs 0]
    refine zk_ite (fun hle => ?_) (fun hlt => ?_)
    · have := zle hle
      exact fin (by omega)
    · have gl := znle hlt
      refine zk_ite (fun hle => ?_) (fun hlt2 => ?_)
      · have := zle hle
        exact fin (by omega)
      · have gl2 := znle hlt2
        have ex := zTe (zTadd (zTs x2) (zTl zt_1) (by omega) (by omega))
        refine r_deal1 hs (by omega) (fun r t ht => ?_)
        exact ih (x2 + 1) t ⟨i + 1, by rw [ex, hi]; rfl, by omega, ht⟩ (by show (9 - (x2 + 1).toInt).toNat < (9 - x2.toInt).toNat; rw [ex]; omega)
  refine z2_kk C D (fun r s r' t q q' => ⟨q.1.trans q'.1.symm, y.toInt.toNat, by omega, q.2.1, q.2.2, q'.2⟩)
/-! hours -/
theorem sGn_ok {g : Nat → Int32} (o : gOK g) (hC : gC g) : ∀ n : Nat, (g 2).toInt + n ≤ 20000 → gOK (sGn g n) ∧ gC (sGn g n) ∧ (sGn g n 2).toInt = (g 2).toInt + n ∧ STx g (sGn g n) ∧ sGn g n 0 = g 0 ∧ (g 4).toInt ≤ (sGn g n 4).toInt := by
  obtain ⟨n0, n2, _⟩ := id o.1
  have e1 := zt_1
  intro n
  induction n with
  | zero => intro _; exact ⟨o, hC, by show (g 2).toInt = _; omega, STx.rf, rfl, Int.le_refl _⟩
  | succ n ih =>
    intro hn
    obtain ⟨a, b, c, d, e, f⟩ := ih (by omega)
    have m0 := a.1.1
    have ea := zTe (zTadd (zTs (sGn g n 2)) (zTl zt_1) (by omega) (by omega))
    have hto := sTo_b a.1 (sHl (sGn g n))
    have hc := sHr_C a b (by omega) hto
    refine ⟨sHr_ok a (by omega) hto, hc.1, ?_, d.tr (sHr_st m0), (sHr_c m0 (by decide)).trans e, Int.le_trans f hc.2⟩
    show (sHr (sGn g n) _ 2).toInt = _
    rw [sHr_2 m0, ea]
    omega
/-- haul and pass an hour -/
theorem c_go {σ : zg_S} {p : Nat} {g : Nat → Int32} (h : EQB σ p g) (hT : TXR σ p g) (o : gOK g) (hp : 53 ≤ p) {k : Int32 → zg_S → Option (Int32 × zg_S)} {P : Int32 → zg_S → Prop} (hk : ∀ r s, EQB s p (sGo g) → TXR s p (sGo g) → wr (W_X0_passHour p) σ s → zk (k r s) P) : zk (zbd (f_X0_hauling p σ) (fun r s => zbd (f_X0_passHour p r s) k)) P := by
  refine zk_call (c_hauling h hT o hp) (fun r s hq => ?_)
  obtain ⟨hr, hw⟩ := hq
  subst hr
  have hs := eqb_ws h hp o.1.1.2 hw
  have Ts := txr_ws hT hp o.2.2.1.2 hw
  refine zk_call (zk_w (c_hour hs Ts o hp (sHl g)) (w_X0_passHour p (sHl g) s)) (fun r t hq => ?_)
  refine hk r t hq.1.1 hq.1.2 (wr.tr (wr.tr wr.rf hw (fun a b z => ?_)) hq.2 (fun _ _ z => z))
  unfold WS at z
  unfold W_X0_passHour
  omega
theorem v_hours {σ τ : zg_S} (h : RR σ τ) (a : Int32) : z2 (f_X6_hours a σ) (f_X7_hours a τ) SM := by
  have e0 := zt_0
  have e1 := zt_1
  have e100 := zt_100
  have e99 := zt_9999
  have o := h.1.2.2.1
  obtain ⟨n0, n2, _⟩ := id o.1
  have h99 := h.1.2.2.2.2
  have hw1 := w_X6_hours a σ
  have hw2 := w_X7_hours a τ
  suffices hz : z2 (f_X6_hours a σ) (f_X7_hours a τ) (fun r s r' t => r = r' ∧ ∃ m : Nat, (τ 1 2).toInt + m ≤ 9999 ∧ EQB s 153 (sGn (τ 1) m) ∧ TXR s 153 (sGn (τ 1) m) ∧ t 1 = sGn (τ 1) m) by
    refine z2_mono (z2_w hz hw1 hw2) (fun r s r' t q => ?_)
    obtain ⟨⟨hr, m, hm, hE, hT, ht⟩, a1, b1⟩ := q
    obtain ⟨x1, x2, x3, x4, x5, x6⟩ := sGn_ok o h.1.2.2.2.1 m (by omega)
    refine ⟨hr, h.now (fun p k hp => a1 p k (fun z => ?_)) (fun p k hp => b1 p k (fun z => ?_)) (by rw [ht, x4.1]; exact Int.le_refl _) (by rw [ht]; exact ⟨hE, hT, x1, x2, by omega⟩)⟩
    · unfold W_X6_hours at z
      unfold sideC at hp
      omega
    · unfold W_X7_hours at z
      unfold sideM at hp
      omega
  unfold f_X6_hours f_X7_hours
  refine z2_within (fun _ => z2_pL rfl (z2_pR rfl (z2_some ⟨rfl, 0, by omega, h.1.1, h.1.2.1, rfl⟩))) (fun a1 a2 => z2_nL one_ne (z2_nR one_ne ?_))
  rw [show σ 153 7 = τ 1 2 from h.f 2 (by decide), show σ 153 11 = τ 1 4 from h.f 4 (by decide)]
  have es := zTe (zTsub (zTl zt_9999) (zTs (τ 1 2)) (by omega) (by omega))
  refine z2_lL (fun y ey => ?_)
  have hy : y.toInt = min a.toInt (9999 - (τ 1 2).toInt) := by
    rw [ey]
    by_cases c : 9999 - τ 1 2 < a
    · rw [if_pos c]
      have := zlt c
      omega
    · rw [if_neg c]
      have := znlt c
      omega
  have C : zk (L_X6_hours_40 a zfu (τ 1 4) y 0 σ) (fun r s => r = sGn (τ 1) y.toInt.toNat 4 - τ 1 4 ∧ EQB s 153 (sGn (τ 1) y.toInt.toNat) ∧ TXR s 153 (sGn (τ 1) y.toInt.toNat)) := by
    unfold L_X6_hours_40
    refine zl_III (fun (x2 x3 x4 : Int32) (s : zg_S) => x2 = τ 1 4 ∧ x3 = y ∧ ∃ i : Nat, x4.toInt = i ∧ (i : Int) ≤ y.toInt ∧ EQB s 153 (sGn (τ 1) i) ∧ TXR s 153 (sGn (τ 1) i)) (fun (_ _ x4 : Int32) (_ : zg_S) => (100 - x4.toInt).toNat) ?_ zfu _ _ _ _ ⟨rfl, rfl, 0, e0, by omega, h.1.1, h.1.2.1⟩ (by unfold zfu; omega)
    intro rec x2 x3 x4 s hI ih
    obtain ⟨hx2, rfl, i, hi, hi2, hE, hT⟩ := hI
    unfold B_X6_hours_40
    refine zk_ite (fun hle => ?_) (fun hlt => ?_)
    · have := zle hle
      have ei : x3.toInt.toNat = i := by omega
      refine zk_some ⟨by rw [ei, hx2, show s 153 11 = sGn (τ 1) i 4 from hE.f 4 (by decide)], by rw [ei]; exact ⟨hE, hT⟩⟩
    · have gl := znle hlt
      obtain ⟨x1, _⟩ := sGn_ok o h.1.2.2.2.1 i (by omega)
      have ex := zTe (zTadd (zTs x4) (zTl zt_1) (by omega) (by omega))
      refine c_go hE hT x1 (by decide) (fun r t hE' hT' _ => ?_)
      exact ih x2 x3 (x4 + 1) t ⟨hx2, rfl, i + 1, by rw [ex, hi]; rfl, by omega, hE', hT'⟩ (by show (100 - (x4 + 1).toInt).toNat < (100 - x4.toInt).toNat; rw [ex]; omega)
  have D : zk (L_X7_hours_24 a zfu (τ 1 4) 0 τ) (fun r t => r = sGn (τ 1) y.toInt.toNat 4 - τ 1 4 ∧ t 1 = sGn (τ 1) y.toInt.toNat) := by
    unfold L_X7_hours_24
    refine zl_II (fun (x2 x3 : Int32) (s : zg_S) => x2 = τ 1 4 ∧ ∃ i : Nat, x3.toInt = i ∧ (i : Int) ≤ y.toInt ∧ s 1 = sGn (τ 1) i) (fun (_ x3 : Int32) (_ : zg_S) => (100 - x3.toInt).toNat) ?_ zfu _ _ _ ⟨rfl, 0, e0, by omega, rfl⟩ (by unfold zfu; omega)
    intro rec x2 x3 s hI ih
    obtain ⟨hx2, i, hi, hi2, hs⟩ := hI
    obtain ⟨x1, _, x3', x4, _⟩ := sGn_ok o h.1.2.2.2.1 i (by omega)
    have fin : (i : Int) = y.toInt → zk (B_X7_hours_51 a x2 s) (fun r t => r = sGn (τ 1) y.toInt.toNat 4 - τ 1 4 ∧ t 1 = sGn (τ 1) y.toInt.toNat) := fun he => by
      have ei : y.toInt.toNat = i := by omega
      unfold B_X7_hours_51
      exact zk_some ⟨by rw [ei, hx2, show s 1 4 = sGn (τ 1) i 4 from congrFun hs 4], by rw [ei]; exact hs⟩
    unfold B_X7_hours_24
    rw [show s 1 2 = sGn (τ 1) i 2 from congrFun hs 2]
    refine zk_ite (fun hle => ?_) (fun hlt => ?_)
    · have := zle hle
      exact fin (by omega)
    · have gl := znle hlt
      refine zk_ite (fun hle => ?_) (fun hlt2 => ?_)
      · have := zle hle
        exact fin (by omega)
      · have gl2 := znle hlt2
        have ex := zTe (zTadd (zTs x3) (zTl zt_1) (by omega) (by omega))
        refine zk_call (r_go hs x1 (h.1.2.1.tv.st x4)) (fun r t hq => ?_)
        exact ih x2 (x3 + 1) t ⟨hx2, i + 1, by rw [ex, hi]; rfl, by omega, hq.1⟩ (by show (100 - (x3 + 1).toInt).toNat < (100 - x3.toInt).toNat; rw [ex]; omega)
  refine z2_kk C D (fun r s r' t q q' => ⟨q.1.trans q'.1.symm, y.toInt.toNat, by omega, q.2.1, q.2.2, q'.2⟩)
end
section
/-! a bazaar takes another one over -/
theorem c_stallOver (a b : Nat) (hab : a ≠ b) (σ : zg_S) : zk (f_X4_takeOver a b σ) (fun _ s => (∀ j, j < 4 → s a j = σ b j) ∧ (∀ j, 4 ≤ j → s a j = σ a j) ∧ ∀ r, r ≠ a → s r = σ r) := by
  unfold f_X4_takeOver
  refine zk_let (fun s1 q1 => ?_)
  have b1 : s1 b = σ b := by rw [q1]; exact zg_row_ne (Ne.symm hab)
  rw [b1]
  refine zk_let (fun s2 q2 => ?_)
  have b2 : s2 b = σ b := by rw [q2]; exact (zg_row_ne (Ne.symm hab)).trans b1
  rw [b2]
  refine zk_let (fun s3 q3 => ?_)
  have b3 : s3 b = σ b := by rw [q3]; exact (zg_row_ne (Ne.symm hab)).trans b2
  rw [b3]
  refine zk_let (fun s4 q4 => zk_some ⟨fun j hj => ?_, fun j hj => ?_, fun r hr => ?_⟩)
  · match j, hj with
    | 0, _ => rw [q4]; refine (zkeepf rfl).trans ?_; rw [q3]; refine (zkeepf rfl).trans ?_; rw [q2]; refine (zkeepf rfl).trans ?_; rw [q1]; exact zgot
    | 1, _ => rw [q4]; refine (zkeepf rfl).trans ?_; rw [q3]; refine (zkeepf rfl).trans ?_; rw [q2]; exact zgot
    | 2, _ => rw [q4]; refine (zkeepf rfl).trans ?_; rw [q3]; exact zgot
    | 3, _ => rw [q4]; exact zgot
  · rw [q4]; refine (zkeepn (by omega)).trans ?_; rw [q3]; refine (zkeepn (by omega)).trans ?_; rw [q2]; refine (zkeepn (by omega)).trans ?_; rw [q1]; exact zkeepn (by omega)
  · rw [q4]; refine (zg_row_ne hr).trans ?_; rw [q3]; refine (zg_row_ne hr).trans ?_; rw [q2]; refine (zg_row_ne hr).trans ?_; rw [q1]; exact zg_row_ne hr
theorem c_takeOver {σ : zg_S} {p q : Nat} {g : Nat → Int32} (h : EQB σ q g) (hT : TXR σ q g) (hN : 0 ≤ (g 0).toInt ∧ (g 0).toInt ≤ 9) (hn : (g 1).toInt ≤ 14) (hp : 53 ≤ p) (hq : 53 ≤ q) (hpq : p + 12 ≤ q ∨ q + 12 ≤ p) : zk (f_X0_takeOver p q σ) (fun _ s => EQB s p g ∧ TXR s p g) := by
  have e0 := zt_0
  have e1 := zt_1
  have e3 := zt_3
  have nn := ztn hN.1
  unfold f_X0_takeOver
  rw [show σ q 3 = g 0 from h.f 0 (by decide)]
  refine zk_let (fun s0 q0 => ?_)
  have o0 : ∀ r k, ¬ (p ≤ r ∧ r ≤ p + 11) → s0 r k = σ r k := fun r k hr => by rw [q0]; exact congrFun (zg_row_ne (by omega)) k
  have n0 : s0 p 3 = g 0 := by rw [q0]; exact zgot
  unfold L_X0_takeOver_10
  refine zl_I (fun (x2 : Int32) (s : zg_S) => ∃ i : Nat, x2.toInt = i ∧ (i : Int) ≤ (g 0).toInt ∧ (∀ r k, ¬ (p ≤ r ∧ r ≤ p + 11) → s r k = σ r k) ∧ s p 3 = g 0 ∧ ∀ k j : Nat, k < i → j < 4 → s (p + 1 + 2 + k) j = g (11 + 4 * k + j)) (fun (x2 : Int32) (_ : zg_S) => (9 - x2.toInt).toNat) ?_ zfu _ _ ⟨0, e0, by omega, o0, n0, fun k j hk _ => by omega⟩ (by unfold zfu; omega)
  intro rec x2 s hI ih
  obtain ⟨i, hi, hi2, ho, hs3, hst⟩ := hI
  unfold B_X0_takeOver_10
  rw [hs3]
  refine zk_ite (fun hle => ?_) (fun hlt => ?_)
  · have gl := zle hle
    have ei : (i : Int) = (g 0).toInt := by omega
    refine zk_let (fun t0 u0 => ?_)
    rw [show s q 4 = g 1 from (ho q 4 (by omega)).trans (h.f 1 (by decide))] at u0
    have w0 : ∀ r, r ≠ p → t0 r = s r := fun r hr => by rw [u0]; exact zg_row_ne hr
    have w3 : t0 p 3 = g 0 := by rw [u0]; exact (zkeepf rfl).trans hs3
    have w4 : t0 p 4 = g 1 := by rw [u0]; exact zgot
    unfold L_X0_takeOver_49
    refine zl_I (fun (y : Int32) (t : zg_S) => ∃ m : Nat, y.toInt = m ∧ m ≤ 3 ∧ (∀ r, r ≠ p + 2 → t r = t0 r) ∧ ∀ k, k < m → t (p + 2) k = σ (q + 2) k) (fun (y : Int32) (_ : zg_S) => (3 - y.toInt).toNat) ?_ zfu _ _ ⟨0, e0, by omega, fun _ _ => rfl, fun k hk => by omega⟩ (by unfold zfu; omega)
    intro rec2 y t hI ih2
    obtain ⟨m, hm, hm3, hr, hc⟩ := hI
    have tq : ∀ r k, q ≤ r → r ≤ q + 11 → t r k = σ r k := fun r k h1 h2 => (congrFun (hr r (by omega)) k).trans ((congrFun (w0 r (by omega)) k).trans (ho r k (by omega)))
    unfold B_X0_takeOver_49
    refine zk_ite (fun hle => ?_) (fun hlt => ?_)
    · have g3 := zle hle
      have em : m = 3 := by omega
      refine zk_let (fun a1 p1 => ?_)
      have r1 : a1 q = t q := by rw [p1]; exact zg_row_ne (by omega)
      rw [r1]
      refine zk_let (fun a2 p2 => ?_)
      have r2 : a2 q = t q := by rw [p2]; exact (zg_row_ne (by omega)).trans r1
      rw [r2]
      refine zk_let (fun a3 p3 => ?_)
      have r3 : a3 q = t q := by rw [p3]; exact (zg_row_ne (by omega)).trans r2
      rw [r3]
      refine zk_let (fun a4 p4 => ?_)
      have r4 : a4 q = t q := by rw [p4]; exact (zg_row_ne (by omega)).trans r3
      rw [r4]
      refine zk_let (fun a5 p5 => ?_)
      have r5 : a5 q = t q := by rw [p5]; exact (zg_row_ne (by omega)).trans r4
      rw [r5]
      refine zk_let (fun a6 p6 => ?_)
      have r6 : a6 q = t q := by rw [p6]; exact (zg_row_ne (by omega)).trans r5
      rw [r6]
      refine zk_let (fun a7 p7 => ?_)
      have r7 : a7 q = t q := by rw [p7]; exact (zg_row_ne (by omega)).trans r6
      rw [r7]
      refine zk_let (fun a8 p8 => ?_)
      have r8 : a8 q = t q := by rw [p8]; exact (zg_row_ne (by omega)).trans r7
      rw [r8]
      refine zk_let (fun a9 p9 => ?_)
      have rowp : a9 p = upd (upd (upd (upd (upd (upd (upd (upd (upd (t p) 5 (t q 5)) 6 (t q 6)) 7 (t q 7)) 8 (t q 8)) 9 (t q 9)) 10 (t q 10)) 11 (t q 11)) 12 (t q 12)) 13 (t q 13) := by
        rw [p9]; refine zg_row_eq.trans ?_
        rw [p8, show zg_up a7 p 12 (t q 12) p = upd (a7 p) 12 (t q 12) from zg_row_eq, p7, show zg_up a6 p 11 (t q 11) p = upd (a6 p) 11 (t q 11) from zg_row_eq, p6, show zg_up a5 p 10 (t q 10) p = upd (a5 p) 10 (t q 10) from zg_row_eq, p5, show zg_up a4 p 9 (t q 9) p = upd (a4 p) 9 (t q 9) from zg_row_eq, p4, show zg_up a3 p 8 (t q 8) p = upd (a3 p) 8 (t q 8) from zg_row_eq, p3, show zg_up a2 p 7 (t q 7) p = upd (a2 p) 7 (t q 7) from zg_row_eq, p2, show zg_up a1 p 6 (t q 6) p = upd (a1 p) 6 (t q 6) from zg_row_eq, p1, show zg_up t p 5 (t q 5) p = upd (t p) 5 (t q 5) from zg_row_eq]
      have oth : ∀ r, r ≠ p → a9 r = t r := fun r hr => by
        rw [p9]; refine (zg_row_ne hr).trans ?_; rw [p8]; refine (zg_row_ne hr).trans ?_; rw [p7]; refine (zg_row_ne hr).trans ?_; rw [p6]; refine (zg_row_ne hr).trans ?_; rw [p5]; refine (zg_row_ne hr).trans ?_; rw [p4]; refine (zg_row_ne hr).trans ?_; rw [p3]; refine (zg_row_ne hr).trans ?_; rw [p2]; refine (zg_row_ne hr).trans ?_; rw [p1]; exact zg_row_ne hr
      have qf : ∀ i, i < 11 → t q (fm i) = g i := fun i hi => (tq q _ (Nat.le_refl _) (by omega)).trans (h.1 i hi)
      have tp : t p = t0 p := hr p (by omega)
      refine zk_some ⟨⟨fun j hj => ?_, fun k j hk hj => ?_⟩, ⟨?_, ?_, ?_⟩, fun t' ht' => ?_⟩
      · rw [rowp]
        match j, hj with
        | 0, _ => exact ((pk_un (by decide)).trans ((pk_un (by decide)).trans ((pk_un (by decide)).trans ((pk_un (by decide)).trans ((pk_un (by decide)).trans ((pk_un (by decide)).trans ((pk_un (by decide)).trans ((pk_un (by decide)).trans (pk_un (by decide)))))))))).trans ((congrFun tp 3).trans w3)
        | 1, _ => exact ((pk_un (by decide)).trans ((pk_un (by decide)).trans ((pk_un (by decide)).trans ((pk_un (by decide)).trans ((pk_un (by decide)).trans ((pk_un (by decide)).trans ((pk_un (by decide)).trans ((pk_un (by decide)).trans (pk_un (by decide)))))))))).trans ((congrFun tp 4).trans w4)
        | 2, _ => exact ((pk_un (by decide)).trans ((pk_un (by decide)).trans ((pk_un (by decide)).trans ((pk_un (by decide)).trans ((pk_un (by decide)).trans ((pk_un (by decide)).trans pk_us)))))).trans (qf 2 (by decide))
        | 3, _ => exact ((pk_un (by decide)).trans ((pk_un (by decide)).trans ((pk_un (by decide)).trans pk_us))).trans (qf 3 (by decide))
        | 4, _ => exact ((pk_un (by decide)).trans ((pk_un (by decide)).trans pk_us)).trans (qf 4 (by decide))
        | 5, _ => exact ((pk_un (by decide)).trans pk_us).trans (qf 5 (by decide))
        | 6, _ => exact pk_us.trans (qf 6 (by decide))
        | 7, _ => exact ((pk_un (by decide)).trans ((pk_un (by decide)).trans ((pk_un (by decide)).trans ((pk_un (by decide)).trans ((pk_un (by decide)).trans ((pk_un (by decide)).trans ((pk_un (by decide)).trans pk_us))))))).trans (qf 7 (by decide))
        | 8, _ => exact ((pk_un (by decide)).trans ((pk_un (by decide)).trans ((pk_un (by decide)).trans ((pk_un (by decide)).trans ((pk_un (by decide)).trans ((pk_un (by decide)).trans ((pk_un (by decide)).trans ((pk_un (by decide)).trans pk_us)))))))).trans (qf 8 (by decide))
        | 9, _ => exact ((pk_un (by decide)).trans ((pk_un (by decide)).trans ((pk_un (by decide)).trans ((pk_un (by decide)).trans ((pk_un (by decide)).trans pk_us))))).trans (qf 9 (by decide))
        | 10, _ => exact ((pk_un (by decide)).trans ((pk_un (by decide)).trans ((pk_un (by decide)).trans ((pk_un (by decide)).trans pk_us)))).trans (qf 10 (by decide))
      · rw [oth _ (by omega), hr _ (by omega), w0 _ (by omega)]
        exact hst k j (by omega) hj
      · rw [oth _ (by omega), hc 0 (by omega)]
        exact hT.1.1
      · rw [oth _ (by omega), hc 1 (by omega)]
        exact hT.1.2.1
      · rw [oth _ (by omega), hc 2 (by omega)]
        exact hT.1.2.2
      · refine (hT.2 t' ht').wr (fun k => ?_) (fun k => ?_)
        · rw [oth _ (by omega), hr _ (by omega), w0 _ (by omega)]
          exact ho _ k (by omega)
        · rw [oth _ (by omega), hr _ (by omega), w0 _ (by omega)]
          exact ho _ k (by omega)
    · have g3 := znle hlt
      have ny := ztn (i := y) (by omega)
      refine zk_in (zin_mk (by omega) (by omega)) (zk_let (fun v ev => zk_let (fun t2 p2 => ?_)))
      rw [show y.toNatClampNeg = m by omega] at ev p2
      have ex := zTe (zTadd (zTs y) (zTl zt_1) (by omega) (by omega))
      refine ih2 (y + 1) t2 ⟨m + 1, by rw [ex, hm]; rfl, by omega, fun r hr' => by rw [p2]; exact (zg_row_ne hr').trans (hr r hr'), fun k hk => ?_⟩ (by show (3 - (y + 1).toInt).toNat < (3 - y.toInt).toNat; rw [ex]; omega)
      rw [p2]
      by_cases e : k = m
      · subst e
        exact zgot.trans (ev.trans (tq _ _ (by omega) (by omega)))
      · exact (zkeepn e).trans (hc k (by omega))
  · have gl := znle hlt
    have ni := ztn (i := x2) (by omega)
    refine zk_in (zin_mk (by omega) (by omega)) ?_
    rw [show x2.toNatClampNeg = i by omega]
    have ex := zTe (zTadd (zTs x2) (zTl zt_1) (by omega) (by omega))
    refine zk_call (c_stallOver (p + 1 + 2 + i) (q + 1 + 2 + i) (by omega) s) (fun r t hq' => ?_)
    obtain ⟨h1, _, h2⟩ := hq'
    refine ih (x2 + 1) t ⟨i + 1, by rw [ex, hi]; rfl, by omega, fun r k hr => by rw [h2 r (by omega)]; exact ho r k hr, by rw [h2 p (by omega)]; exact hs3, fun k j hk hj => ?_⟩ (by show (9 - (x2 + 1).toInt).toNat < (9 - x2.toInt).toNat; rw [ex]; omega)
    by_cases e : k = i
    · subst e
      rw [h1 j hj, ho _ _ (by omega)]
      exact h.2 k j (by omega) hj
    · rw [h2 _ (by omega)]
      exact hst k j (by omega) hj
/-! images: rows that agree below 2847 -/
def AG (g h : Nat → Int32) : Prop := ∀ k, k < 2847 → h k = g k
theorem sCn_ag {g h : Nat → Int32} (a : AG g h) (key : Int32) : ∀ n, n ≤ 14 → sCn h key n = sCn g key n := by
  intro n
  induction n with
  | zero => intro _; rfl
  | succ n ih =>
    intro hn
    show (if h (47 + 200 * n) = key then Int32.ofNat n else sCn h key n) = if g (47 + 200 * n) = key then Int32.ofNat n else sCn g key n
    rw [a _ (by omega), ih (by omega)]
theorem bz_ag {σ : zg_S} {p : Nat} {g h : Nat → Int32} (a : AG g h) (b : BZ σ p g) : BZ σ p h := by
  obtain ⟨hE, hT, o, hC, h99⟩ := b
  obtain ⟨oB, oS, on, oW, o96⟩ := id o
  have nn := ztn on.1
  have c0 := a 0 (by decide)
  have c1 := a 1 (by decide)
  have hct : ∀ key, cC h key = cC g key := fun key => by
    unfold cC sCt
    rw [c1, sCn_ag a key _ (by omega)]
  refine ⟨⟨fun i hi => (hE.1 i hi).trans (a i (by omega)).symm, fun k j hk hj => ?_⟩, ⟨⟨hT.1.1.trans (hct 0).symm, hT.1.2.1.trans (hct 1).symm, hT.1.2.2.trans (hct 2).symm⟩, fun t ht => ?_⟩, ⟨gB_eq oB (fun i hi _ _ _ _ => a i (by omega)), fun k hk => ?_, by rw [c1]; exact on, WF_eq2 on.2 a oW, fun t ht => ?_⟩, ?_, by rw [a 2 (by decide)]; exact h99⟩
  · rw [c0] at hk
    have := oB.1.2
    rw [a _ (by omega)]
    exact hE.2 k j hk hj
  · rw [c1] at ht
    obtain ⟨x0, x1, x2, x3, x4⟩ := hT.2 t ht
    have e96 := o96 t ht
    refine ⟨x0.trans (a _ (by omega)).symm, x1.trans (a _ (by omega)).symm, x2.trans (a _ (by omega)).symm, by rw [a _ (by omega)]; exact x3, fun i hi => ?_⟩
    rw [a _ (by omega)] at hi
    rw [a (47 + 200 * t) (by omega), a (47 + 200 * t + 4 + 2 * i) (by omega), a (47 + 200 * t + 4 + 2 * i + 1) (by omega)]
    exact x4 i hi
  · rw [c0] at hk
    have := oB.1.2
    exact gSb_eq (fun j hj => a _ (by omega)) (oS k hk)
  · rw [c1] at ht
    rw [a _ (by omega)]
    exact o96 t ht
  · unfold gC
    rw [a 3 (by decide), a 2 (by decide), a 4 (by decide), a 5 (by decide)]
    exact hC
theorem v_keep {σ τ : zg_S} (h : RR σ τ) (hM : IMc τ) : z2 (f_X6_keep σ) (f_X7_keep τ) SM := by
  obtain ⟨h1, h2, h3, h4, h5, h6⟩ := id h
  have o := h1.2.2.1
  unfold f_X6_keep f_X7_keep
  refine z2_lR (fun t1 q1 => ?_)
  have m1 : IMc t1 := by rw [q1]; exact IMc.up hM (zTs 1) trivial
  have b1 : ∀ p k, ¬ (p = 0 ∧ k = 3) → t1 p k = τ p k := fun p k hp => by
    rw [q1]
    by_cases e : p = 0
    · subst e
      exact zkeepn (by omega)
    · exact congrFun (zg_row_ne e) k
  refine z2_cL (zk_w (c_takeOver (p := 177) h1.1 h1.2.1 o.1.1 o.2.2.1.2 (by decide) (by decide) (by decide)) (w_X0_takeOver 177 153 σ)) (fun r s hp => ?_)
  refine z2_cR (s_X7_setAside 1 2 t1 m1 (by decide) (by decide) (by decide) mc_1_2) (fun r' t hp' => ?_)
  obtain ⟨⟨hE, hT⟩, hw⟩ := hp
  obtain ⟨_, ha, _, hp2⟩ := hp'
  refine z2_lL (fun s2 q2 => ?_)
  have f2 : ∀ p k, ¬ ((p = 0 ∧ k = 12) ∨ (177 ≤ p ∧ p ≤ 188)) → s2 p k = σ p k := fun p k hp => by
    rw [q2]
    have hh : s p k = σ p k := hw p k (by unfold W_X0_takeOver; omega)
    by_cases e : p = 0
    · subst e
      exact (zkeepn (by omega)).trans hh
    · exact (congrFun (zg_row_ne e) k).trans hh
  have f3 : ∀ p k, ¬ ((p = 0 ∧ k = 3) ∨ p = 2) → t p k = τ p k := fun p k hp => by
    rw [hp2 p (by omega)]
    exact b1 p k (by omega)
  have e1 : t 1 = τ 1 := funext (fun k => f3 1 k (by omega))
  have k12 : s2 0 12 = 1 := by rw [q2]; exact zgot
  have k3 : t 0 3 = 1 := by rw [hp2 0 (by decide), q1]; exact zgot
  have ag : AG (τ 1) (t 2) := fun k hk => (ha k hk).trans (b1 1 k (by omega))
  have bz : BZ s2 177 (τ 1) := by
    have : BZ s 177 (τ 1) := ⟨hE, hT, h1.2.2⟩
    rw [q2]
    exact bz_wr this (by decide) (fun q k _ _ => congrFun (zg_row_ne (by omega)) k) (fun q k _ _ _ => congrFun (zg_row_ne (by omega)) k)
  refine z2_some ⟨by rw [e1, f2 153 3 (by omega)]; exact h.f 0 (by decide), ?_⟩
  refine ⟨by rw [e1]; exact bz_wr h1 (by decide) (fun q k _ _ => f2 q k (by omega)) (fun q k _ _ _ => f2 q k (by omega)), ⟨by rw [k12, k3], fun _ => ⟨bz_ag ag bz, by rw [ag 1 (by decide), e1]; exact Int.le_refl _⟩⟩, h3.k (f2 0 10 (by omega)) (f3 0 14 (by omega)) (fun k => f2 6 k (by omega)) (fun k => f3 13 k (by omega)), h4.k (f2 0 11 (by omega)) (f3 0 29 (by omega)) (fun k => f2 5 k (by omega)) (fun k => f3 17 k (by omega)), h5.k (fun q k _ _ => f2 q k (by omega)) (fun k => f3 4 k (by omega)) (fun k => f3 5 k (by omega)) (fun k => f3 6 k (by omega)), h6.k (fun q k _ _ => f2 q k (by omega)) (fun p k _ _ => f3 p k (by omega))⟩
theorem v_back {σ τ : zg_S} (h : RR σ τ) (hM : IMc τ) : z2 (f_X6_back σ) (f_X7_back τ) SM := by
  obtain ⟨h1, h2, h3, h4, h5, h6⟩ := id h
  unfold f_X6_back f_X7_back
  rw [h2.1]
  refine z2_iL (fun hz => z2_pR hz (z2_some (SM.rf h))) (fun hz => z2_nR hz ?_)
  obtain ⟨i1, i2⟩ := h2.2 hz
  have o := i1.2.2.1
  refine z2_cL (zk_w (c_takeOver (p := 153) i1.1 i1.2.1 o.1.1 o.2.2.1.2 (by decide) (by decide) (by decide)) (w_X0_takeOver 153 177 σ)) (fun r s hp => ?_)
  refine z2_cR (s_X7_setAside 2 1 τ hM (by decide) (by decide) (by decide) mc_2_1) (fun r' t hp' => ?_)
  obtain ⟨⟨hE, hT⟩, hw⟩ := hp
  obtain ⟨_, ha, _, hp2⟩ := hp'
  have f2 : ∀ p k, ¬ (153 ≤ p ∧ p ≤ 164) → s p k = σ p k := fun p k hp => hw p k (by unfold W_X0_takeOver; omega)
  have ag : AG (τ 2) (t 1) := ha
  have bz : BZ s 153 (t 1) := bz_ag ag ⟨hE, hT, i1.2.2⟩
  have c1 := ag 1 (by decide)
  refine z2_some ⟨?_, bz, ?_, h3.k (f2 0 10 (by omega)) (congrFun (hp2 0 (by decide)) 14) (fun k => f2 6 k (by omega)) (fun k => congrFun (hp2 13 (by decide)) k), h4.k (f2 0 11 (by omega)) (congrFun (hp2 0 (by decide)) 29) (fun k => f2 5 k (by omega)) (fun k => congrFun (hp2 17 (by decide)) k), h5.k (fun q k _ _ => f2 q k (by omega)) (fun k => congrFun (hp2 4 (by decide)) k) (fun k => congrFun (hp2 5 (by decide)) k) (fun k => congrFun (hp2 6 (by decide)) k), h6.k (fun q k _ _ => f2 q k (by omega)) (fun p k _ _ => congrFun (hp2 p (by omega)) k)⟩
  · exact bz.1.f 0 (by decide)
  · refine ⟨by rw [f2 0 12 (by omega), congrFun (hp2 0 (by decide)) 3]; exact h2.1, fun _ => ?_⟩
    rw [hp2 2 (by decide), c1]
    exact ⟨bz_wr i1 (by decide) (fun q k _ _ => f2 q k (by omega)) (fun q k _ _ _ => f2 q k (by omega)), Int.le_refl _⟩
end
section
/-! what is only thought -/
theorem r_by (τ : zg_S) : zk (f_X7_laysBy τ) (fun _ s => (∀ k, k < 47 → s 12 k = τ 1 k) ∧ ∀ p, p ≠ 12 → s p = τ p) := by
  have e0 := zt_0
  have e9 := zt_47
  have e1 := zt_1
  unfold f_X7_laysBy L_X7_laysBy_2
  refine zl_I (fun (x : Int32) (s : zg_S) => (∀ k : Nat, (k : Int) < x.toInt → s 12 k = τ 1 k) ∧ (∀ p, p ≠ 12 → s p = τ p) ∧ 0 ≤ x.toInt ∧ x.toInt ≤ 47) (fun (x : Int32) (_ : zg_S) => (47 - x.toInt).toNat) ?_ zfu _ _ ⟨fun k hk => by omega, fun p _ => rfl, by omega, by omega⟩ (by unfold zfu; omega)
  intro rec x s hI ih
  obtain ⟨ha, hp, i1, i2⟩ := hI
  unfold B_X7_laysBy_2
  refine zk_ite (fun h => ?_) (fun h => ?_)
  · have g := zle h
    exact zk_some ⟨fun k hk => ha k (by omega), hp⟩
  · have g := znle h
    refine zk_in (zin_mk i1 (by omega)) ?_
    refine zk_in (zin_mk i1 (by omega)) ?_
    refine zk_let (fun t q => ?_)
    have hn := ztn i1
    have ex := zTe (zTadd (zTs x) (zTl zt_1) (by omega) (by omega))
    refine ih (x + 1) t ⟨?_, ?_, ?_, ?_⟩ ?_
    · intro k hk
      rw [ex] at hk
      rw [q]
      by_cases e : k = x.toNatClampNeg
      · subst e
        exact zgot.trans (by rw [hp 1 (by decide)])
      · exact (zkeepn e).trans (ha k (by omega))
    · intro p' h'
      rw [q]
      exact (zg_row_ne h').trans (hp p' h')
    · rw [ex]; omega
    · rw [ex]; omega
    · show (47 - (x + 1).toInt).toNat < (47 - x.toInt).toNat
      rw [ex]
      omega
theorem r_bk (τ : zg_S) : zk (f_X7_laysBack τ) (fun _ s => (∀ k, k < 47 → s 1 k = τ 12 k) ∧ (∀ k, 47 ≤ k → s 1 k = τ 1 k) ∧ ∀ p, p ≠ 1 → s p = τ p) := by
  have e0 := zt_0
  have e9 := zt_47
  have e1 := zt_1
  unfold f_X7_laysBack L_X7_laysBack_2
  refine zl_I (fun (x : Int32) (s : zg_S) => (∀ k : Nat, (k : Int) < x.toInt → s 1 k = τ 12 k) ∧ (∀ k : Nat, x.toInt ≤ k → s 1 k = τ 1 k) ∧ (∀ p, p ≠ 1 → s p = τ p) ∧ 0 ≤ x.toInt ∧ x.toInt ≤ 47) (fun (x : Int32) (_ : zg_S) => (47 - x.toInt).toNat) ?_ zfu _ _ ⟨fun k hk => by omega, fun k _ => rfl, fun p _ => rfl, by omega, by omega⟩ (by unfold zfu; omega)
  intro rec x s hI ih
  obtain ⟨ha, hb, hp, i1, i2⟩ := hI
  unfold B_X7_laysBack_2
  refine zk_ite (fun h => ?_) (fun h => ?_)
  · have g := zle h
    exact zk_some ⟨fun k hk => ha k (by omega), fun k hk => hb k (by omega), hp⟩
  · have g := znle h
    refine zk_in (zin_mk i1 (by omega)) ?_
    refine zk_let (fun y ey => ?_)
    refine zk_in (zin_mk i1 (by omega)) ?_
    refine zk_let (fun t q => ?_)
    have hn := ztn i1
    have ex := zTe (zTadd (zTs x) (zTl zt_1) (by omega) (by omega))
    refine ih (x + 1) t ⟨?_, ?_, ?_, ?_, ?_⟩ ?_
    · intro k hk
      rw [ex] at hk
      rw [q]
      by_cases e : k = x.toNatClampNeg
      · subst e
        exact zgot.trans (by rw [ey, hp 12 (by decide)])
      · exact (zkeepn e).trans (ha k (by omega))
    · intro k hk
      rw [ex] at hk
      rw [q]
      exact (zkeepn (by omega)).trans (hb k (by omega))
    · intro p' h'
      rw [q]
      exact (zg_row_ne h').trans (hp p' h')
    · rw [ex]; omega
    · rw [ex]; omega
    · show (47 - (x + 1).toInt).toNat < (47 - x.toInt).toNat
      rw [ex]
      omega
/-- what is to come back lies by -/
def KB (τ s : zg_S) : Prop := (∀ k, k < 47 → s 12 k = τ 1 k) ∧ ∀ p k, sideM p k → s p k = τ p k
theorem r_by' (τ : zg_S) : zk (f_X7_laysBy τ) (fun _ s => s 1 = τ 1 ∧ KB τ s) := zk_mono (r_by τ) (fun _ s h => ⟨h.2 1 (by decide), h.1, fun p k hp => congrFun (h.2 p (by unfold sideM at hp; omega)) k⟩)
theorem r_bk' {τ s : zg_S} (b : KB τ s) (h : ∀ k, 47 ≤ k → s 1 k = τ 1 k) : zk (f_X7_laysBack s) (fun _ t => t 1 = τ 1 ∧ KB τ t) := by
  refine zk_mono (r_bk s) (fun _ t q => ?_)
  obtain ⟨x, y, z⟩ := q
  refine ⟨funext (fun k => ?_), fun k hk => ?_, fun p k hp => ?_⟩
  · by_cases c : k < 47
    · exact (x k c).trans (b.1 k c)
    · exact (y k (by omega)).trans (h k (by omega))
  · rw [z 12 (by decide)]
    exact b.1 k hk
  · rw [z p (by unfold sideM at hp; omega)]
    exact b.2 p k hp
theorem KB.w {τ s t : zg_S} {W : Nat → Nat → Prop} (b : KB τ s) (h : wr W s t) (hW : ∀ p k, W p k → p = 1 ∨ p = 14 ∨ p = 15) : KB τ t := ⟨fun k hk => (h 12 k (fun z => by have := hW 12 k z; omega)).trans (b.1 k hk), fun p k hp => (h p k (fun z => by have := hW p k z; unfold sideM at hp; omega)).trans (b.2 p k hp)⟩
theorem r_many {s : zg_S} {g : Nat → Int32} (h1 : s 1 = g) (o : gOK g) (hC : gC g) (hV : tvs g) (a : Int32) (ha : a.toInt ≤ 100) (h2 : (g 2).toInt ≤ 10000) : zk (f_X7_goesOnMany a s) (fun _ t => t 1 = sGn g a.toInt.toNat ∧ wr W_X7_goesOnMany s t) := by
  have e0 := zt_0
  have e1 := zt_1
  refine zk_w ?_ (w_X7_goesOnMany a s)
  unfold f_X7_goesOnMany L_X7_goesOnMany_2
  refine zl_I (fun (x : Int32) (t : zg_S) => ∃ i : Nat, x.toInt = i ∧ i ≤ a.toInt.toNat ∧ t 1 = sGn g i) (fun (x : Int32) (_ : zg_S) => (101 - x.toInt).toNat) ?_ zfu _ _ ⟨0, e0, by omega, h1⟩ (by unfold zfu; omega)
  intro rec x t hI ih
  obtain ⟨i, hi, hi2, ht⟩ := hI
  unfold B_X7_goesOnMany_2
  refine zk_ite (fun hle => ?_) (fun hlt => ?_)
  · have := zle hle
    exact zk_some (by rw [show a.toInt.toNat = i by omega]; exact ht)
  · have gl := znle hlt
    obtain ⟨x1, _, _, x4, _⟩ := sGn_ok o hC i (by omega)
    have ex := zTe (zTadd (zTs x) (zTl zt_1) (by omega) (by omega))
    refine zk_call (r_go ht x1 (hV.st x4)) (fun r u hq => ?_)
    exact ih (x + 1) u ⟨i + 1, by rw [ex, hi]; rfl, by omega, hq.1⟩ (by show (101 - (x + 1).toInt).toNat < (101 - x.toInt).toNat; rw [ex]; omega)
theorem c_think {s : zg_S} {g : Nat → Int32} (h : EQB s 165 g) (hT : TXR s 165 g) (o : gOK g) (hC : gC g) (a : Int32) (ha : a.toInt ≤ 100) (h2 : (g 2).toInt ≤ 10000) : zk (f_X6_thinkOn a s) (fun _ t => (EQB t 165 (sGn g a.toInt.toNat) ∧ TXR t 165 (sGn g a.toInt.toNat)) ∧ wr W_X6_thinkOn s t) := by
  have e0 := zt_0
  have e1 := zt_1
  refine zk_w ?_ (w_X6_thinkOn a s)
  unfold f_X6_thinkOn L_X6_thinkOn_2
  refine zl_I (fun (x : Int32) (t : zg_S) => ∃ i : Nat, x.toInt = i ∧ i ≤ a.toInt.toNat ∧ EQB t 165 (sGn g i) ∧ TXR t 165 (sGn g i)) (fun (x : Int32) (_ : zg_S) => (101 - x.toInt).toNat) ?_ zfu _ _ ⟨0, e0, by omega, h, hT⟩ (by unfold zfu; omega)
  intro rec x t hI ih
  obtain ⟨i, hi, hi2, hE, hX⟩ := hI
  unfold B_X6_thinkOn_2
  refine zk_ite (fun hle => ?_) (fun hlt => ?_)
  · have := zle hle
    exact zk_some (by rw [show a.toInt.toNat = i by omega]; exact ⟨hE, hX⟩)
  · have gl := znle hlt
    obtain ⟨x1, _⟩ := sGn_ok o hC i (by omega)
    have ex := zTe (zTadd (zTs x) (zTl zt_1) (by omega) (by omega))
    refine c_go hE hX x1 (by decide) (fun r u hE' hX' _ => ?_)
    exact ih (x + 1) u ⟨i + 1, by rw [ex, hi]; rfl, by omega, hE', hX'⟩ (by show (101 - (x + 1).toInt).toNat < (101 - x.toInt).toNat; rw [ex]; omega)
/-- thought in the class: only the other bazaars and the stacks are written -/
theorem th {o o' : Option (Int32 × zg_S)} {W : Nat → Nat → Prop} {σ τ : zg_S} (h : RR σ τ) (hz : z2 o o' (fun r _ r' t => r = r' ∧ t 1 = τ 1 ∧ KB τ t)) (hw : zw W σ o) (hW : ∀ p k, W p k → ¬ sideC p k ∧ ¬ (153 ≤ p ∧ p ≤ 164)) : z2 o o' SM := by
  obtain ⟨r, s, r', t, e, e', q1, q2, q3⟩ := hz
  have a := hw r s e
  exact ⟨r, s, r', t, e, e', q1, h.same (fun p k hp => a p k (fun z => (hW p k z).1 hp)) (fun p k h1 h2 => a p k (fun z => (hW p k z).2 ⟨h1, h2⟩)) q3.2 q2⟩
theorem WT {p k : Nat} (h : (165 ≤ p ∧ p ≤ 176) ∨ (13 ≤ p ∧ p ≤ 52 ∧ p % 3 = 1)) : ¬ sideC p k ∧ ¬ (153 ≤ p ∧ p ≤ 164) := by
  unfold sideC
  omega
theorem KB0 {τ : zg_S} (h : ∀ k, k < 47 → τ 12 k = τ 1 k) : KB τ τ := ⟨h, fun _ _ _ => rfl⟩
/-- refused: nothing changes -/
theorem th0 {σ τ : zg_S} {o o' : Option (Int32 × zg_S)} {r : Int32} (h : RR σ τ) (e : o = some (r, σ)) (e' : o' = some (r, τ)) : z2 o o' SM := ⟨r, σ, r, τ, e, e', rfl, h⟩
/-- the bazaar of now, through what is thought -/
theorem now_w {σ s : zg_S} {g : Nat → Int32} (h : EQB σ 153 g) (hT : TXR σ 153 g) (hN : (g 0).toInt ≤ 9) (hn : (g 1).toInt ≤ 14) (hw : wr W_X6_thinkOn σ s) : EQB s 153 g ∧ TXR s 153 g := ⟨h.wr hN (fun q k _ _ => hw q k (by unfold W_X6_thinkOn; omega)), hT.wr hn (fun k => hw _ k (by unfold W_X6_thinkOn; omega)) (fun q k _ _ _ => hw q k (by unfold W_X6_thinkOn; omega))⟩
theorem tk_w {σ s : zg_S} (h : wr (W_X0_takeOver 165) σ s) : wr W_X6_thinkOn σ s := wr.tr wr.rf h (fun p k z => by unfold W_X0_takeOver at z; unfold W_X6_thinkOn; omega)
/-- take now over into the thought one -/
theorem c_over {σ s : zg_S} {g : Nat → Int32} (h : EQB σ 153 g) (hT : TXR σ 153 g) (o : gOK g) (hw : wr W_X6_thinkOn σ s) : zk (f_X0_takeOver 165 153 s) (fun _ t => (EQB t 165 g ∧ TXR t 165 g) ∧ wr W_X6_thinkOn σ t) := by
  obtain ⟨a, b⟩ := now_w h hT o.1.1.2 o.2.2.1.2 hw
  refine zk_mono (zk_w (c_takeOver (p := 165) a b o.1.1 o.2.2.1.2 (by decide) (by decide) (by decide)) (w_X0_takeOver 165 153 s)) (fun _ t q => ⟨q.1, hw.tr (tk_w q.2) (fun _ _ z => z)⟩)
theorem v_behind {σ τ : zg_S} (h : RR σ τ) (a b : Int32) : z2 (f_X6_behind a b σ) (f_X7_behind a b τ) SM := by
  have e0 := zt_0
  have e100 := zt_100
  obtain ⟨hE, hT, o, hC, h99⟩ := h.1
  by_cases ca : (0 : Int32).toInt ≤ a.toInt ∧ a.toInt ≤ (100 : Int32).toInt
  · by_cases cb : (0 : Int32).toInt ≤ b.toInt ∧ b.toInt ≤ (3 : Int32).toInt
    · refine th h ?_ (w_X6_behind a b σ) (fun p k z => WT z)
      unfold f_X6_behind f_X7_behind
      refine z2_eL (c_within1 σ ca) (z2_nL one_ne (z2_eL (c_within1 σ cb) (z2_nL one_ne ?_)))
      refine z2_eR (r_isIn1 τ ca) (z2_nR one_ne (z2_eR (r_isIn1 τ cb) (z2_nR one_ne ?_)))
      refine z2_cL (c_over hE hT o wr.rf) (fun _ s q => ?_)
      refine z2_cL (c_think q.1.1 q.1.2 o hC a (by omega) (by omega)) (fun _ s2 q2 => ?_)
      refine z2_cR (r_by' τ) (fun _ t p => ?_)
      refine z2_cR (r_many p.1 o hC hT.tv a (by omega) (by omega)) (fun _ t2 p2 => ?_)
      have kb := p.2.w p2.2 (fun p k z => by unfold W_X7_goesOnMany at z; omega)
      obtain ⟨_, _, _, st, _⟩ := sGn_ok o hC a.toInt.toNat (by omega)
      have fin : ∀ i : Nat, i < 11 → z2 (some (s2 165 (fm i), s2)) (B_X7_behind_84 a b (t2 1 i) t2) (fun r _ r' t => r = r' ∧ t 1 = τ 1 ∧ KB τ t) := fun i hi => by
        unfold B_X7_behind_84
        refine z2_cR (r_bk' kb (fun k hk => by rw [p2.1]; exact st.2 k hk)) (fun _ t3 p3 => z2_some ⟨?_, p3⟩)
        rw [p2.1]
        exact q2.1.1.f i hi
      refine z2_iL (fun hb => z2_pR hb (fin 4 (by decide))) (fun h0 => z2_nR h0 ?_)
      refine z2_iL (fun hb => z2_pR hb (fin 3 (by decide))) (fun h1 => z2_nR h1 ?_)
      exact z2_iL (fun hb => z2_pR hb (fin 7 (by decide))) (fun h2 => z2_nR h2 (fin 5 (by decide)))
    · refine th0 (r := -1000000001) h ?_ ?_
      · unfold f_X6_behind
        rw [c_within1 σ ca, zbd_s, if_neg one_ne, c_within0 σ cb]
        rfl
      · unfold f_X7_behind
        rw [r_isIn1 τ ca, zbd_s, if_neg one_ne, r_isIn0 τ cb]
        rfl
  · refine th0 (r := -1000000001) h ?_ ?_
    · unfold f_X6_behind
      rw [c_within0 σ ca]
      rfl
    · unfold f_X7_behind
      rw [r_isIn0 τ ca]
      rfl
theorem v_goods {σ τ : zg_S} (h : RR σ τ) (a b : Int32) : z2 (f_X6_goods a b σ) (f_X7_goods a b τ) SM := by
  have e0 := zt_0
  have e100 := zt_100
  obtain ⟨hE, hT, o, hC, h99⟩ := id h.1
  have es : σ 153 3 = τ 1 0 := h.f 0 (by decide)
  have n0 := o.1.1
  by_cases ca : 0 ≤ a.toInt ∧ a.toInt < (τ 1 0).toInt
  · have na := ztn ca.1
    by_cases cb : (0 : Int32).toInt ≤ b.toInt ∧ b.toInt ≤ (100 : Int32).toInt
    · refine th h ?_ (w_X6_goods a b σ) (fun p k z => WT z)
      unfold f_X6_goods f_X7_goods
      refine z2_eL (c_isStall1 (by rw [es]; exact ca)) (z2_nL one_ne (z2_eL (c_within1 σ cb) (z2_nL one_ne ?_)))
      refine z2_eR (r_isStall1 ca) (z2_nR one_ne (z2_eR (r_isIn1 τ cb) (z2_nR one_ne ?_)))
      refine z2_cL (c_over hE hT o wr.rf) (fun _ s q => ?_)
      refine z2_cL (c_think q.1.1 q.1.2 o hC b (by omega) (by omega)) (fun _ s2 q2 => ?_)
      refine z2_cR (r_by' τ) (fun _ t p => ?_)
      refine z2_cR (r_many p.1 o hC hT.tv b (by omega) (by omega)) (fun _ t2 p2 => ?_)
      have kb := p.2.w p2.2 (fun p k z => by unfold W_X7_goesOnMany at z; omega)
      obtain ⟨_, _, _, st, s0, _⟩ := sGn_ok o hC b.toInt.toNat (by omega)
      refine z2_pL (zin_mk ca.1 (by omega)) ?_
      refine z2_eR (r_of (k := a.toNatClampNeg) p2.1 (by omega) (by omega) zt_2 (by decide)) ?_
      refine z2_cR (r_bk' kb (fun k hk => by rw [p2.1]; exact st.2 k hk)) (fun _ t3 p3 => z2_some ⟨?_, p3⟩)
      exact q2.1.1.2 a.toNatClampNeg 2 (by rw [s0]; omega) (by decide)
    · refine th0 (r := -1000000001) h ?_ ?_
      · unfold f_X6_goods
        rw [c_isStall1 (by rw [es]; exact ca), zbd_s, if_neg one_ne, c_within0 σ cb]
        rfl
      · unfold f_X7_goods
        rw [r_isStall1 ca, zbd_s, if_neg one_ne, r_isIn0 τ cb]
        rfl
  · refine th0 (r := -1000000001) h ?_ ?_
    · unfold f_X6_goods
      rw [c_isStall0 (by rw [es]; exact n0.1) (by rw [es]; exact ca)]
      rfl
    · unfold f_X7_goods
      rw [r_isStall0 n0.1 ca]
      rfl
end
section
theorem k_whose (a1 a2 a3 : Int32) (σ : zg_S) (h : IM σ) : zk (f_X7_whose a1 a2 a3 σ) (fun _ s => s 1 = σ 1) := by
  have e60 := zt_60
  have e1 := zt_1
  have e0 := zt_0
  have e2 := zt_2
  have e3 := zt_3
  have e24 := zt_24
  unfold f_X7_whose
  refine zk_call (s_X7_isSheet a1 σ h.1) (fun r s hp => ?_)
  obtain ⟨rfl, hr⟩ := hp
  refine zk_ite (fun _ => zk_some rfl) (fun hn => ?_)
  obtain ⟨-, g1, g2⟩ := hr.resolve_left hn
  refine zk_call (m_isIn a2 0 60 σ h.1) (fun r s hp => ?_)
  obtain ⟨rfl, hr2⟩ := hp
  refine zk_ite (fun _ => zk_some rfl) (fun hn => ?_)
  obtain ⟨-, -, h2⟩ := hr2.resolve_left hn
  refine zk_call (m_isIn a3 0 1 σ h.1) (fun r s hp => ?_)
  obtain ⟨rfl, hr3⟩ := hp
  refine zk_ite (fun _ => zk_some rfl) (fun hn => ?_)
  have z1 : zin a1 4 = true := zin_mk g1 (by omega)
  refine zk_in z1 ?_
  refine zk_ite (fun _ => ?_) (fun _ => zk_some rfl)
  refine zk_call (m_by σ h.1) (fun _ s3 hp => ?_)
  unfold L_X7_whose_58
  refine zl_III (fun (_ _ x6 : Int32) (s : zg_S) => BY σ s ∧ s 1 = σ 1 ∧ 0 ≤ x6.toInt ∧ x6.toInt ≤ 3) (fun (_ _ x6 : Int32) (_ : zg_S) => (3 - x6.toInt).toNat) ?_ zfu _ _ _ _ ⟨hp.1, hp.2, by omega, by omega⟩ (by unfold zfu; omega)
  intro rec x4 x5 x6 s hI ih
  obtain ⟨b, e, i1, i2⟩ := hI
  unfold B_X7_whose_58
  have hd := e
  refine zk_ite (fun _ => zk_ite (fun _ => zk_some hd) (fun _ => zk_some hd)) (fun hl => ?_)
  have g := znle hl
  have ex := zTe (zTadd (zTs x6) (zTl zt_1) (by omega) (by omega))
  refine zk_let (fun t q => ?_)
  have bt : BY σ t := by rw [q]; exact b.up (by decide) (by decide)
  refine zk_call (m_many a2 σ t h bt (by omega)) (fun _ t2 b2 => ?_)
  unfold L_X7_whose_84
  refine zl_IIIII (fun (_ _ y6 _ x8 : Int32) (s : zg_S) => BY σ s ∧ y6 = x6 ∧ 0 ≤ x8.toInt ∧ x8.toInt ≤ 24) (fun (_ _ _ _ x8 : Int32) (_ : zg_S) => (24 - x8.toInt).toNat) ?_ zfu _ _ _ _ _ _ ⟨b2, rfl, by omega, by omega⟩ (by unfold zfu; omega)
  intro rec2 y4 y5 y6 x7 x8 u hI ih2
  obtain ⟨bu, rfl, j1, j2⟩ := hI
  have f5 : 0 ≤ (u 5 (Int32.toNatClampNeg a1)).toInt ∧ (u 5 (Int32.toNatClampNeg a1)).toInt ≤ 24 := bu.1 5 _
  have f0 : 0 ≤ (u 1 0).toInt ∧ (u 1 0).toInt ≤ 9 := bu.1 1 0
  unfold B_X7_whose_84
  refine zk_in z1 ?_
  refine zk_ite (fun _ => ?_) (fun h8 => ?_)
  · refine zk_call (m_bk σ u bu) (fun _ t3 hp => ?_)
    have ee : ∀ y z, zk (B_X7_whose_182 a1 a2 a3 rec y z y6 t3) (fun _ s => s 1 = σ 1) := fun y z => by
      unfold B_X7_whose_182
      exact ih _ _ (y6 + 1) t3 ⟨hp.1, hp.2, by rw [ex]; omega, by rw [ex]; omega⟩ (by show (3 - (y6 + 1).toInt).toNat < (3 - y6.toInt).toNat; rw [ex]; omega)
    exact zk_ite (fun _ => ee _ _) (fun _ => zk_ite (fun _ => ee _ _) (fun _ => ee _ _))
  · have g8 := znle h8
    refine zk_in (zin_mkT (zTadd (zTmul (zTl zt_24) (zTs a1) (by omega) (by omega)) (zTs x8) (by omega) (by omega)) (by omega) (by omega)) ?_
    refine zk_let (fun v _ => ?_)
    have ex8 := zTe (zTadd (zTs x8) (zTl zt_1) (by omega) (by omega))
    have e9 : ∀ y z, zk (B_X7_whose_149 a1 a2 a3 rec2 y4 y5 y6 x8 y z u) (fun _ s => s 1 = σ 1) := fun y z => by
      unfold B_X7_whose_149
      exact ih2 _ _ y6 _ (x8 + 1) u ⟨bu, rfl, by rw [ex8]; omega, by rw [ex8]; omega⟩ (by show (24 - (x8 + 1).toInt).toNat < (24 - x8.toInt).toNat; rw [ex8]; omega)
    have e6 : ∀ y z w, zk (B_X7_whose_146 a1 a2 a3 rec2 y4 y5 y6 x8 y z w u) (fun _ s => s 1 = σ 1) := fun y z w => by
      unfold B_X7_whose_146
      refine zk_call (s_X7_off z y u bu.1) (fun _ t hp => ?_)
      subst hp
      exact e9 _ _
    refine zk_ite (fun _ => e9 _ _) (fun _ => zk_ite (fun _ => e6 _ _ _) (fun hk => ?_))
    have gk := znle hk
    refine zk_call (s_X7_of x8 2 u bu.1 j1 (by omega) (by omega) (by omega)) (fun _ t hp => ?_)
    subst hp
    exact e6 _ _ _
theorem v_whose {σ τ : zg_S} (h : RR σ τ) (hX : IX σ) (hM : IM τ) (a b c : Int32) : z2 (f_X6_whose a b c σ) (f_X7_whose a b c τ) (fun _ s _ t => RR s t) := by
  obtain ⟨r, s, e, _⟩ := s_X6_whose a b c σ hX
  obtain ⟨r', t, e', ht⟩ := k_whose a b c τ hM
  have x := w_X6_whose a b c σ r s e
  have y := w_X7_whose a b c τ r' t e'
  exact ⟨r, s, r', t, e, e', h.same (fun p k hp => x p k (fun z => (WT z).1 hp)) (fun p k h1 h2 => x p k (fun z => (WT (k := k) z).2 ⟨h1, h2⟩)) (fun p k hp => y p k (fun z => by unfold W_X7_whose at z; unfold sideM at hp; omega)) ht⟩
end
section
/-! shaded -/
def sCs (g : Nat → Int32) (pl : Int32) : Nat → Int32
  | 0 => 0
  | i + 1 => if sShd (sGn g i) (sTo (sGn g i) (sHl (sGn g i))) pl = 0 then sCs g pl i else sCs g pl i + 1
theorem sGn_pl {g : Nat → Int32} (o : gOK g) (hC : gC g) (k : Nat) : ∀ n : Nat, (g 2).toInt + n ≤ 20000 → sGn g n (11 + 4 * k + 1) = g (11 + 4 * k + 1) := by
  intro n
  induction n with
  | zero => intro _; rfl
  | succ n ih =>
    intro hn
    obtain ⟨a, _⟩ := sGn_ok o hC n (by omega)
    show sHr (sGn g n) _ (11 + 4 * k + 1) = _
    rw [sHr_c a.1.1 (by omega)]
    exact ih (by omega)
theorem v_shaded {σ τ : zg_S} (h : RR σ τ) (a b : Int32) : z2 (f_X6_shaded a b σ) (f_X7_shaded a b τ) SM := by
  have e0 := zt_0
  have e1 := zt_1
  have e60 := zt_60
  obtain ⟨hE, hT, o, hC, h99⟩ := id h.1
  have es : σ 153 3 = τ 1 0 := h.f 0 (by decide)
  have n0 := o.1.1
  by_cases ca : 0 ≤ a.toInt ∧ a.toInt < (τ 1 0).toInt
  · have na := ztn ca.1
    by_cases cb : (1 : Int32).toInt ≤ b.toInt ∧ b.toInt ≤ (60 : Int32).toInt
    · refine th h ?_ (w_X6_shaded a b σ) (fun p k z => WT z)
      unfold f_X6_shaded f_X7_shaded
      refine z2_eL (c_isStall1 (by rw [es]; exact ca)) (z2_nL one_ne (z2_eL (c_within1 σ cb) (z2_nL one_ne ?_)))
      refine z2_eR (r_isStall1 ca) (z2_nR one_ne (z2_eR (r_isIn1 τ cb) (z2_nR one_ne ?_)))
      refine z2_cL (c_over hE hT o wr.rf) (fun _ s q => ?_)
      refine z2_cR (r_by' τ) (fun _ t p => ?_)
      refine z2_pL (zin_mk ca.1 (by omega)) (z2_lL (fun pl hpl => ?_))
      have hk : (a.toNatClampNeg : Int) < (τ 1 0).toInt := by omega
      have hpl' : pl = τ 1 (11 + 4 * a.toNatClampNeg + 1) := hpl.trans (q.1.1.2 _ 1 hk (by decide))
      have C : zk (L_X6_shaded_51 a b zfu pl 0 0 s) (fun r _ => r = sCs (τ 1) pl b.toInt.toNat) := by
        unfold L_X6_shaded_51
        refine zl_III (fun (x3 x4 x5 : Int32) (u : zg_S) => x3 = pl ∧ ∃ i : Nat, x5.toInt = i ∧ (i : Int) ≤ b.toInt ∧ x4 = sCs (τ 1) pl i ∧ EQB u 165 (sGn (τ 1) i) ∧ TXR u 165 (sGn (τ 1) i)) (fun (_ _ x5 : Int32) (_ : zg_S) => (60 - x5.toInt).toNat) ?_ zfu _ _ _ _ ⟨rfl, 0, e0, by omega, rfl, q.1.1, q.1.2⟩ (by unfold zfu; omega)
        intro rec x3 x4 x5 u hI ih
        obtain ⟨rfl, i, hi, hi2, hx, uE, uT⟩ := hI
        unfold B_X6_shaded_51
        refine zk_ite (fun hle => ?_) (fun hlt => ?_)
        · have := zle hle
          exact zk_some (by rw [show b.toInt.toNat = i by omega]; exact hx)
        · have gl := znle hlt
          obtain ⟨x1, _⟩ := sGn_ok o hC i (by omega)
          have ex := zTe (zTadd (zTs x5) (zTl zt_1) (by omega) (by omega))
          refine zk_call (c_hauling uE uT x1 (by decide)) (fun r v hq => ?_)
          obtain ⟨hr, hw⟩ := hq
          subst hr
          have vE := eqb_ws uE (by decide) x1.1.1.2 hw
          have vT := txr_ws uT (by decide) x1.2.2.1.2 hw
          refine zk_e (c_hauledTo vE _) (zk_e (c_wouldShade vE _ _) ?_)
          have eC : sCs (τ 1) x3 (i + 1) = if sShd (sGn (τ 1) i) (sTo (sGn (τ 1) i) (sHl (sGn (τ 1) i))) x3 = 0 then sCs (τ 1) x3 i else sCs (τ 1) x3 i + 1 := rfl
          have nx7 : ∀ y : Int32, y = sCs (τ 1) x3 (i + 1) → zk (B_X6_shaded_89 a b rec x3 y x5 (sHl (sGn (τ 1) i)) v) (fun r _ => r = sCs (τ 1) x3 b.toInt.toNat) := fun y hy => by
            unfold B_X6_shaded_89
            refine zk_call (c_hour vE vT x1 (by decide) _) (fun _ w hw' => ?_)
            exact ih x3 y (x5 + 1) w ⟨rfl, i + 1, by rw [ex, hi]; rfl, by omega, hy, hw'.1, hw'.2⟩ (by show (60 - (x5 + 1).toInt).toNat < (60 - x5.toInt).toNat; rw [ex]; omega)
          exact zk_ite (fun hz => nx7 _ (by rw [eC, if_pos hz]; exact hx)) (fun hz => nx7 _ (by rw [eC, if_neg hz, hx]))
      have D : zk (L_X7_shaded_32 a b zfu 0 0 t) (fun r u => r = sCs (τ 1) pl b.toInt.toNat ∧ u 1 = τ 1 ∧ KB τ u) := by
        unfold L_X7_shaded_32
        refine zl_II (fun (x3 x4 : Int32) (u : zg_S) => KB τ u ∧ ∃ i : Nat, x4.toInt = i ∧ (i : Int) ≤ b.toInt ∧ x3 = sCs (τ 1) pl i ∧ u 1 = sGn (τ 1) i) (fun (_ x4 : Int32) (_ : zg_S) => (60 - x4.toInt).toNat) ?_ zfu _ _ _ ⟨p.2, 0, e0, by omega, rfl, p.1⟩ (by unfold zfu; omega)
        intro rec x3 x4 u hI ih
        obtain ⟨kb, i, hi, hi2, hx, hu⟩ := hI
        obtain ⟨x1, _, x2, st, x5, _⟩ := sGn_ok o hC i (by omega)
        unfold B_X7_shaded_32
        refine zk_ite (fun hle => ?_) (fun hlt => ?_)
        · have := zle hle
          refine zk_call (r_bk' kb (fun k hk => by rw [hu]; exact st.2 k hk)) (fun _ t4 p4 => zk_some ⟨?_, p4⟩)
          rw [show b.toInt.toNat = i by omega]
          exact hx
        · have gl := znle hlt
          have ex := zTe (zTadd (zTs x4) (zTl zt_1) (by omega) (by omega))
          have V := hT.tv.st st
          refine zk_call (zk_w (r_hauls hu x1 V) (w_X7_hauls u)) (fun r v hq => ?_)
          obtain ⟨⟨hr, hv⟩, hw⟩ := hq
          subst hr
          have kv := kb.w hw (fun p k z => by unfold W_X7_hauls at z; omega)
          have hm := sHl_m (sGn (τ 1) i)
          rw [show v 1 7 = sGn (τ 1) i 7 from congrFun hv 7, show u 1 7 = sGn (τ 1) i 7 from congrFun hu 7]
          refine zk_let (fun t1 q1 => ?_)
          have d1 : t1 1 = upd (sGn (τ 1) i) 7 (sGn (τ 1) i 7 + sBv (sHl (sGn (τ 1) i))) := by rw [q1]; exact up_row hv
          have k1 : KB τ t1 := kv.w (W := fun p _ => p = 1) (fun p k hp => by rw [q1]; exact congrFun (zg_row_ne hp) k) (fun p k z => Or.inl z)
          have hh := r_holds d1 (by rw [pk_un (by decide)]; exact x1.1.2.2.1)
          rw [pk_us, pk_un (by decide), sTo_r x1.1 _ hm] at hh
          refine zk_e hh ?_
          have d2 : zg_up t1 1 7 (sTo (sGn (τ 1) i) (sHl (sGn (τ 1) i))) 1 = upd (sGn (τ 1) i) 7 (sTo (sGn (τ 1) i) (sHl (sGn (τ 1) i))) := by rw [up_row d1, upd_upd]
          have k2 : KB τ (zg_up t1 1 7 (sTo (sGn (τ 1) i) (sHl (sGn (τ 1) i)))) := k1.w (W := fun p _ => p = 1) (fun p k hp => congrFun (zg_row_ne hp) k) (fun p k z => Or.inl z)
          generalize zg_up t1 1 7 (sTo (sGn (τ 1) i) (sHl (sGn (τ 1) i))) = t2 at d2 k2 ⊢
          have o2 := x1.first (sTo_b x1.1 (sHl (sGn (τ 1) i)))
          have sh := r_shaded (a1 := a) (k := a.toNatClampNeg) d2 o2 (by omega) (by rw [pk_un (by decide), x5]; exact hk)
          rw [pk_us, pk_un (by omega), sShd_c (pk_un (by decide)) (pk_un (by decide)), sGn_pl o hC _ i (by omega), ← hpl'] at sh
          refine zk_e sh ?_
          have eC : sCs (τ 1) pl (i + 1) = if sShd (sGn (τ 1) i) (sTo (sGn (τ 1) i) (sHl (sGn (τ 1) i))) pl = 0 then sCs (τ 1) pl i else sCs (τ 1) pl i + 1 := rfl
          have nx7 : ∀ y : Int32, x3 + y = sCs (τ 1) pl (i + 1) → zk (B_X7_shaded_83 a b rec x4 (sGn (τ 1) i 7) (sBv (sHl (sGn (τ 1) i))) y x3 t2) (fun r u => r = sCs (τ 1) pl b.toInt.toNat ∧ u 1 = τ 1 ∧ KB τ u) := fun y hy => by
            unfold B_X7_shaded_83
            refine zk_let (fun t3 q3 => ?_)
            have d3 : t3 1 = sGn (τ 1) i := by
              rw [q3, up_row d2, upd_upd]
              exact upd_self rfl
            have k3 : KB τ t3 := k2.w (W := fun p _ => p = 1) (fun p k hp => by rw [q3]; exact congrFun (zg_row_ne hp) k) (fun p k z => Or.inl z)
            refine zk_call (zk_w (r_goesOnBy d3 x1 V _ hm) (w_X7_goesOnBy _ t3)) (fun _ t4 p4 => ?_)
            have k4 := k3.w p4.2 (fun p k z => by unfold W_X7_goesOnBy at z; omega)
            exact ih _ (x4 + 1) t4 ⟨k4, i + 1, by rw [ex, hi]; rfl, by omega, hy, p4.1⟩ (by show (60 - (x4 + 1).toInt).toNat < (60 - x4.toInt).toNat; rw [ex]; omega)
          exact zk_ite (fun hz => nx7 0 (by rw [eC, if_pos hz, hx]; exact Int32.add_zero _)) (fun hz => nx7 1 (by rw [eC, if_neg hz, hx]))
      exact z2_kk C D (fun r s r' t q q' => ⟨q.trans q'.1.symm, q'.2⟩)
    · refine th0 (r := -1000000001) h ?_ ?_
      · unfold f_X6_shaded
        rw [c_isStall1 (by rw [es]; exact ca), zbd_s, if_neg one_ne, c_within0 σ cb]
        rfl
      · unfold f_X7_shaded
        rw [r_isStall1 ca, zbd_s, if_neg one_ne, r_isIn0 τ cb]
        rfl
  · refine th0 (r := -1000000001) h ?_ ?_
    · unfold f_X6_shaded
      rw [c_isStall0 (by rw [es]; exact n0.1) (by rw [es]; exact ca)]
      rfl
    · unfold f_X7_shaded
      rw [r_isStall0 n0.1 ca]
      rfl
end
section
/-! wider -/
def gW (g : Nat → Int32) (v : Int32) : Nat → Int32 := upd (upd g 8 v) 7 (sHeld (g 7) 0 (12 - v))
theorem gW_C {g : Nat → Int32} {v : Int32} (h : gC g) : gC (gW g v) := gC_un (gC_un h (by decide)) (by decide)
theorem gW_st {g : Nat → Int32} {v : Int32} : STx g (gW g v) := (STx.rf.up (by decide) (by decide)).up (by decide) (by decide)
theorem gW_2 {g : Nat → Int32} {v : Int32} : gW g v 2 = g 2 := (pk_un (by decide)).trans (pk_un (by decide))
/-- the least width that is enough -/
def wA (V : Int32 → Int32) (w r : Int32) : Prop := (r = -1000000005 ∧ ∀ v : Int32, 1 ≤ v.toInt → v.toInt ≤ 6 → w < V v) ∨ (1 ≤ r.toInt ∧ r.toInt ≤ 6 ∧ ¬ w < V r ∧ ∀ v : Int32, 1 ≤ v.toInt → v.toInt < r.toInt → w < V v)
theorem wA_u {V : Int32 → Int32} {w r r' : Int32} (h : wA V w r) (h' : wA V w r') : r = r' := by
  rcases h with ⟨a, b⟩ | ⟨a1, a2, a3, a4⟩
  · rcases h' with ⟨c, d⟩ | ⟨c1, c2, c3, c4⟩
    · rw [a, c]
    · exact absurd (b _ c1 c2) c3
  · rcases h' with ⟨c, d⟩ | ⟨c1, c2, c3, c4⟩
    · exact absurd (d _ a1 a2) a3
    · refine Int32.toInt_inj.mp ?_
      by_cases x : r.toInt < r'.toInt
      · exact absurd (c4 _ a1 x) a3
      · by_cases y : r'.toInt < r.toInt
        · exact absurd (a4 _ c1 y) c3
        · omega
theorem c_widen {σ : zg_S} {p : Nat} {g : Nat → Int32} (h : EQB σ p g) (hT : TXR σ p g) (hn : (g 1).toInt ≤ 14) (hp : 53 ≤ p) (v : Int32) : zk (f_X0_widen p v σ) (fun _ s => (EQB s p (gW g v) ∧ TXR s p (gW g v)) ∧ wr (W_X0_widen p) σ s) := by
  refine zk_w ?_ (w_X0_widen p v σ)
  have hE : EQB (zg_up σ p 5 v) p (upd g 8 v) := h.up 8 (by decide) (by decide) rfl
  unfold f_X0_widen
  refine zk_let (fun s1 q1 => ?_)
  have h1 : EQB s1 p (upd g 8 v) := by rw [q1]; exact hE
  have e := c_lastFirst h1
  rw [pk_us] at e
  refine zk_e e (zk_e (c_held _ _ _ _) (zk_let (fun s2 q2 => zk_some ⟨?_, ?_⟩)))
  · rw [q2, show s1 p 6 = g 7 from (h1.f 7 (by decide)).trans (pk_un (by decide))]
    exact h1.up 7 (by decide) (by decide) rfl
  · rw [q2, q1]
    exact (txr_up (txr_up hT hn (by omega) hp) hn (by omega) hp).st gW_st
theorem v_wider {σ τ : zg_S} (h : RR σ τ) (a b : Int32) : z2 (f_X6_wider a b σ) (f_X7_wider a b τ) SM := by
  have e0 := zt_0
  have e1 := zt_1
  have em := zt_m1
  have e6 := zt_6
  have e60 := zt_60
  obtain ⟨hE, hT, o, hC, h99⟩ := id h.1
  by_cases ca : (0 : Int32).toInt ≤ a.toInt ∧ a.toInt ≤ (9999 : Int32).toInt
  · by_cases cb : (1 : Int32).toInt ≤ b.toInt ∧ b.toInt ≤ (60 : Int32).toInt
    · refine th h ?_ (w_X6_wider a b σ) (fun p k z => WT z)
      have wok : ∀ v : Int32, 1 ≤ v.toInt → v.toInt ≤ 6 → gOK (gW (τ 1) v) := fun v v1 v2 => o.wid ⟨v1, v2⟩
      have C : zk (L_X6_wider_26 a b zfu 1 σ) (fun r _ => wA (fun v => sGn (gW (τ 1) v) b.toInt.toNat 4) a r) := by
        unfold L_X6_wider_26
        refine zl_I (fun (x : Int32) (s : zg_S) => wr W_X6_thinkOn σ s ∧ 1 ≤ x.toInt ∧ x.toInt ≤ 7 ∧ ∀ v : Int32, 1 ≤ v.toInt → v.toInt < x.toInt → a < sGn (gW (τ 1) v) b.toInt.toNat 4) (fun (x : Int32) (_ : zg_S) => (7 - x.toInt).toNat) ?_ zfu _ _ ⟨wr.rf, by omega, by omega, fun v h1 h2 => by omega⟩ (by unfold zfu; omega)
        intro rec x s hI ih
        obtain ⟨hw, i1, i2, i3⟩ := hI
        unfold B_X6_wider_26
        refine zk_ite (fun hlt => ?_) (fun hle => ?_)
        · have := zlt hlt
          exact zk_some (Or.inl ⟨rfl, fun v v1 v2 => i3 v v1 (by omega)⟩)
        · have gl := znlt hle
          refine zk_call (c_over hE hT o hw) (fun _ t q => ?_)
          refine zk_call (c_widen q.1.1 q.1.2 o.2.2.1.2 (by decide) x) (fun _ t2 q2 => ?_)
          refine zk_call (c_think q2.1.1 q2.1.2 (wok x i1 (by omega)) (gW_C hC) b (by omega) (by rw [gW_2]; omega)) (fun _ t3 q3 => ?_)
          rw [show t3 165 11 = sGn (gW (τ 1) x) b.toInt.toNat 4 from q3.1.1.f 4 (by decide)]
          have hw3 : wr W_X6_thinkOn σ t3 := (q.2.tr q2.2 (fun p k z => by unfold W_X0_widen at z; unfold W_X6_thinkOn; omega)).tr q3.2 (fun _ _ z => z)
          refine zk_ite (fun hc => ?_) (fun hc => zk_some (Or.inr ⟨i1, by omega, hc, i3⟩))
          have ex := zTe (zTadd (zTs x) (zTl zt_1) (by omega) (by omega))
          refine ih (x + 1) t3 ⟨hw3, by rw [ex]; omega, by rw [ex]; omega, fun v v1 v2 => ?_⟩ (by show (7 - (x + 1).toInt).toNat < (7 - x.toInt).toNat; rw [ex]; omega)
          rw [ex] at v2
          by_cases c : v.toInt < x.toInt
          · exact i3 v v1 c
          · rw [show v = x from Int32.toInt_inj.mp (by omega)]
            exact hc
      unfold f_X6_wider f_X7_wider
      refine z2_eL (c_within1 σ ca) (z2_nL one_ne (z2_eL (c_within1 σ cb) (z2_nL one_ne ?_)))
      refine z2_eR (r_isIn1 τ ca) (z2_nR one_ne (z2_eR (r_isIn1 τ cb) (z2_nR one_ne ?_)))
      refine z2_cR (r_by' τ) (fun _ t p => ?_)
      have D : zk (L_X7_wider_37 a b zfu (-1) 6 t) (fun r u => wA (fun v => sGn (gW (τ 1) v) b.toInt.toNat 4) a r ∧ u 1 = τ 1 ∧ KB τ u) := by
        unfold L_X7_wider_37
        refine zl_II (fun (x3 x4 : Int32) (s : zg_S) => s 1 = τ 1 ∧ KB τ s ∧ 0 ≤ x4.toInt ∧ x4.toInt ≤ 6 ∧ ((x3 = -1 ∧ ∀ v : Int32, x4.toInt < v.toInt → v.toInt ≤ 6 → a < sGn (gW (τ 1) v) b.toInt.toNat 4) ∨ (x4.toInt < x3.toInt ∧ x3.toInt ≤ 6 ∧ ¬ a < sGn (gW (τ 1) x3) b.toInt.toNat 4 ∧ ∀ v : Int32, x4.toInt < v.toInt → v.toInt < x3.toInt → a < sGn (gW (τ 1) v) b.toInt.toNat 4))) (fun (_ x4 : Int32) (_ : zg_S) => x4.toInt.toNat) ?_ zfu _ _ _ ⟨p.1, p.2, by omega, by omega, Or.inl ⟨rfl, fun v h1 h2 => by omega⟩⟩ (by unfold zfu; omega)
        intro rec x3 x4 s hI ih
        obtain ⟨hs, kb, i1, i2, hx⟩ := hI
        unfold B_X7_wider_37
        refine zk_ite (fun hlt => ?_) (fun hle => ?_)
        · have gl := zlt hlt
          rcases hx with ⟨hx, hv⟩ | ⟨x1, x2, x5, x6⟩
          · have eo : f_X7_orNone x3 s = some (-1000000005, s) := by
              unfold f_X7_orNone
              rw [if_neg (by rw [hx]; decide)]
            exact zk_e eo (zk_some ⟨Or.inl ⟨rfl, fun v v1 v2 => hv v (by omega) v2⟩, hs, kb⟩)
          · have eo : f_X7_orNone x3 s = some (x3, s) := by
              unfold f_X7_orNone
              rw [if_pos (Int32.le_iff_toInt_le.mpr (by omega))]
            exact zk_e eo (zk_some ⟨Or.inr ⟨by omega, x2, x5, fun v v1 v2 => x6 v (by omega) v2⟩, hs, kb⟩)
        · have gl := znlt hle
          refine zk_let (fun t1 q1 => ?_)
          have d1 : t1 1 = upd (τ 1) 8 x4 := by rw [q1]; exact up_row hs
          have k1 : KB τ t1 := kb.w (W := fun p _ => p = 1) (fun p k hp => by rw [q1]; exact congrFun (zg_row_ne hp) k) (fun p k z => Or.inl z)
          have hh := r_holds d1 (by rw [pk_us]; exact ⟨by omega, i2⟩)
          rw [pk_us, pk_un (by decide)] at hh
          refine zk_e hh ?_
          have d2 : zg_up t1 1 7 (sHeld (τ 1 7) 0 (12 - x4)) 1 = gW (τ 1) x4 := up_row d1
          have k2 : KB τ (zg_up t1 1 7 (sHeld (τ 1 7) 0 (12 - x4))) := k1.w (W := fun p _ => p = 1) (fun p k hp => congrFun (zg_row_ne hp) k) (fun p k z => Or.inl z)
          generalize zg_up t1 1 7 (sHeld (τ 1 7) 0 (12 - x4)) = t2 at d2 k2 ⊢
          have ok := wok x4 (by omega) i2
          refine zk_call (r_many d2 ok (gW_C hC) (hT.tv.st gW_st) b (by omega) (by rw [gW_2]; omega)) (fun _ t3 p3 => ?_)
          obtain ⟨_, _, _, st, _⟩ := sGn_ok ok (gW_C hC) b.toInt.toNat (by rw [gW_2]; omega)
          have k3 := k2.w p3.2 (fun p k z => by unfold W_X7_goesOnMany at z; omega)
          rw [show t3 1 4 = sGn (gW (τ 1) x4) b.toInt.toNat 4 from congrFun p3.1 4]
          obtain ⟨w, hw, ex⟩ : ∃ w : Int32, w = x4 + (-1) ∧ w.toInt = x4.toInt - 1 := ⟨_, rfl, (zTe (zTadd (zTs x4) (zTl zt_m1) (by omega) (by omega))).trans (by omega)⟩
          have nx7 : ∀ y : Int32, ((y = -1 ∧ ∀ v : Int32, w.toInt < v.toInt → v.toInt ≤ 6 → a < sGn (gW (τ 1) v) b.toInt.toNat 4) ∨ (w.toInt < y.toInt ∧ y.toInt ≤ 6 ∧ ¬ a < sGn (gW (τ 1) y) b.toInt.toNat 4 ∧ ∀ v : Int32, w.toInt < v.toInt → v.toInt < y.toInt → a < sGn (gW (τ 1) v) b.toInt.toNat 4)) → zk (B_X7_wider_77 a b rec x4 y t3) (fun r u => wA (fun v => sGn (gW (τ 1) v) b.toInt.toNat 4) a r ∧ u 1 = τ 1 ∧ KB τ u) := fun y hy => by
            unfold B_X7_wider_77
            rw [← hw]
            refine zk_call (r_bk' k3 (fun k hk => by rw [p3.1]; exact (st.2 k hk).trans (gW_st.2 k hk))) (fun _ t4 p4 => ?_)
            exact ih y w t4 ⟨p4.1, p4.2, by omega, by omega, hy⟩ (by show w.toInt.toNat < x4.toInt.toNat; omega)
          refine zk_ite (fun hc => nx7 x3 ?_) (fun hc => nx7 x4 (Or.inr ⟨by omega, i2, hc, fun v v1 v2 => by omega⟩))
          rcases hx with ⟨hx, hv⟩ | ⟨x1, x2, x5, x6⟩
          · refine Or.inl ⟨hx, fun v v1 v2 => ?_⟩
            by_cases c : x4.toInt < v.toInt
            · exact hv v c v2
            · rw [show v = x4 from Int32.toInt_inj.mp (by omega)]
              exact hc
          · refine Or.inr ⟨by omega, x2, x5, fun v v1 v2 => ?_⟩
            by_cases c : x4.toInt < v.toInt
            · exact x6 v c v2
            · rw [show v = x4 from Int32.toInt_inj.mp (by omega)]
              exact hc
      exact z2_kk C D (fun r s r' t q q' => ⟨wA_u q q'.1, q'.2⟩)
    · refine th0 (r := -1000000001) h ?_ ?_
      · unfold f_X6_wider
        rw [c_within1 σ ca, zbd_s, if_neg one_ne, c_within0 σ cb]
        rfl
      · unfold f_X7_wider
        rw [r_isIn1 τ ca, zbd_s, if_neg one_ne, r_isIn0 τ cb]
        rfl
  · refine th0 (r := -1000000001) h ?_ ?_
    · unfold f_X6_wider
      rw [c_within0 σ ca]
      rfl
    · unfold f_X7_wider
      rw [r_isIn0 τ ca]
      rfl
end
section
/-! sheets -/
theorem c_become (q : Nat) (a b : Int32) (σ : zg_S) : zk (f_X2_become q a b σ) (fun _ s => s q 0 = a ∧ s q 1 = sHeld b 0 24 ∧ ∀ i, i < 24 → s (q + 1) i = 0) := by
  have e0 := zt_0
  have e1 := zt_1
  have e24 := zt_24
  unfold f_X2_become
  refine zk_let (fun s1 q1 => zk_e (c_held _ _ _ _) (zk_let (fun s2 q2 => ?_)))
  have a0 : s2 q 0 = a := by rw [q2]; refine (zkeepf rfl).trans ?_; rw [q1]; exact zgot
  have a1 : s2 q 1 = sHeld b 0 24 := by rw [q2]; exact zgot
  unfold L_X2_become_18
  refine zl_I (fun (x : Int32) (s : zg_S) => ∃ i : Nat, x.toInt = i ∧ i ≤ 24 ∧ s q = s2 q ∧ ∀ j, j < i → s (q + 1) j = 0) (fun (x : Int32) (_ : zg_S) => (24 - x.toInt).toNat) ?_ zfu _ _ ⟨0, e0, by omega, rfl, fun j hj => by omega⟩ (by unfold zfu; omega)
  intro rec x s hI ih
  obtain ⟨i, hi, hi2, hq, hz⟩ := hI
  unfold B_X2_become_18
  refine zk_ite (fun hle => ?_) (fun hlt => ?_)
  · have := zle hle
    exact zk_some ⟨by rw [hq]; exact a0, by rw [hq]; exact a1, fun j hj => hz j (by omega)⟩
  · have gl := znle hlt
    have ni := ztn (i := x) (by omega)
    refine zk_in (zin_mk (by omega) (by omega)) (zk_let (fun t p => ?_))
    rw [show x.toNatClampNeg = i by omega] at p
    have ex := zTe (zTadd (zTs x) (zTl zt_1) (by omega) (by omega))
    refine ih (x + 1) t ⟨i + 1, by rw [ex, hi]; rfl, by omega, by rw [p]; exact (zg_row_ne (by omega)).trans hq, fun j hj => ?_⟩ (by show (24 - (x + 1).toInt).toNat < (24 - x.toInt).toNat; rw [ex]; omega)
    rw [p]
    by_cases e : j = i
    · subst e
      exact zgot
    · exact (zkeepn e).trans (hz j (by omega))
/-- row 6 of the reference, from 24 n on: zeroed -/
theorem r_zero (a1 a2 a3 : Int32) (n : Nat) (hn : a1.toInt = n) (h4 : n < 4) (τ : zg_S) : zk (L_X7_sheet_69 a1 a2 a3 zfu 0 τ) (fun r t => r = τ 5 n ∧ (∀ p, p ≠ 6 → t p = τ p) ∧ (∀ i, i < 24 → t 6 (24 * n + i) = 0) ∧ ∀ j, (j < 24 * n ∨ 24 * n + 24 ≤ j) → t 6 j = τ 6 j) := by
  have e0 := zt_0
  have e1 := zt_1
  have e24 := zt_24
  have en : a1.toNatClampNeg = n := zTn (zTl hn) rfl
  unfold L_X7_sheet_69
  refine zl_I (fun (x : Int32) (s : zg_S) => ∃ i : Nat, x.toInt = i ∧ i ≤ 24 ∧ (∀ p, p ≠ 6 → s p = τ p) ∧ (∀ j, j < i → s 6 (24 * n + j) = 0) ∧ ∀ j, (j < 24 * n ∨ 24 * n + 24 ≤ j) → s 6 j = τ 6 j) (fun (x : Int32) (_ : zg_S) => (24 - x.toInt).toNat) ?_ zfu _ _ ⟨0, e0, by omega, fun _ _ => rfl, fun j hj => by omega, fun _ _ => rfl⟩ (by unfold zfu; omega)
  intro rec x s hI ih
  obtain ⟨i, hi, hi2, hp, hz, ho⟩ := hI
  unfold B_X7_sheet_69
  refine zk_ite (fun hle => ?_) (fun hlt => ?_)
  · have := zle hle
    refine zk_in (zin_mk (by omega) (by omega)) (zk_some ⟨?_, hp, fun j hj => hz j (by omega), ho⟩)
    rw [en, hp 5 (by decide)]
  · have gl := znle hlt
    have pi := zTadd (zTmul (zTl zt_24) (zTs a1) (by omega) (by omega)) (zTs x) (by omega) (by omega)
    have ii := zTn pi (show (24 * a1.toInt + x.toInt : Int) = ((24 * n + i : Nat) : Int) by omega)
    refine zk_in (zin_mkT pi (by omega) (by omega)) (zk_let (fun t p => ?_))
    rw [ii] at p
    have ex := zTe (zTadd (zTs x) (zTl zt_1) (by omega) (by omega))
    refine ih (x + 1) t ⟨i + 1, by rw [ex, hi]; rfl, by omega, fun r hr => by rw [p]; exact (zg_row_ne hr).trans (hp r hr), fun j hj => ?_, fun j hj => ?_⟩ (by show (24 - (x + 1).toInt).toNat < (24 - x.toInt).toNat; rw [ex]; omega)
    · rw [p]
      by_cases e : j = i
      · subst e
        exact zgot
      · exact (zkeepn (by omega)).trans (hz j (by omega))
    · rw [p]
      exact (zkeepn (by omega)).trans (ho j hj)
theorem v_sheet {σ τ : zg_S} (h : RR σ τ) (a b c : Int32) : z2 (f_X6_sheet a b c σ) (f_X7_sheet a b c τ) SM := by
  have e0 := zt_0
  have e1 := zt_1
  have em := zt_m1
  have e24 := zt_24
  unfold f_X6_sheet f_X7_sheet
  refine z2_sheet (z2_pL rfl (z2_pR rfl (z2_some (SM.rf h)))) (fun n hn h4 en zi => z2_nL one_ne (z2_nR one_ne ?_))
  refine z2_within (fun _ => z2_pL rfl (z2_pR rfl (z2_some (SM.rf h)))) (fun b1 b2 => z2_nL one_ne (z2_nR one_ne ?_))
  rw [em] at b1
  rw [e1] at b2
  -- both sides write the sheet
  have main : ∀ (so ln : Int32) (o : Int32), so = b → (so = -1 ∨ so = 0 ∨ so = 1) → 0 ≤ ln.toInt → ln.toInt ≤ 24 → o = ln → z2 (zbd (f_X2_become (53 + 2 * n) so ln σ) (fun _ s => some (o, s))) (zbd (L_X7_sheet_69 a b c zfu 0 (zg_up (zg_up τ 4 n b) 5 n ln)) (fun r t => some (r, t))) SM := fun so ln o hso hs3 l0 l1 ho => by
    subst hso
    subst ho
    refine z2_cL (zk_w (c_become (53 + 2 * n) so o σ) (w_X2_become (53 + 2 * n) so o σ)) (fun _ s q => ?_)
    refine z2_cR (r_zero a so c n hn h4 _) (fun r t p => ?_)
    obtain ⟨⟨q0, q1, q2⟩, qw⟩ := q
    obtain ⟨p0, p1, p2, p3⟩ := p
    rw [sHeld_in l0 (by rw [e24]; exact l1)] at q1
    have x5 : ∀ k, t 5 k = if k = n then o else τ 5 k := fun k => by
      rw [p1 5 (by decide)]
      by_cases e : k = n
      · subst e; rw [if_pos rfl]; exact zgot
      · rw [if_neg e]; exact (zkeepn e).trans (congrFun (zup_ne rfl) k)
    have x4 : ∀ k, t 4 k = if k = n then so else τ 4 k := fun k => by
      rw [p1 4 (by decide)]
      refine (congrFun (zup_ne rfl) k).trans ?_
      by_cases e : k = n
      · subst e; rw [if_pos rfl]; exact zgot
      · rw [if_neg e]; exact zkeepn e
    refine z2_some ⟨?_, h.r5 (fun p k hp => qw p k (fun z => by unfold W_X2_become at z; omega)) (fun p k hp => ?_) (fun k hk => ?_)⟩
    · rw [p0]
      exact zgot.symm
    · rw [p1 p (by omega)]
      exact (congrFun (zg_row_ne (by omega)) k).trans (congrFun (zg_row_ne (by omega)) k)
    · rw [x4, x5]
      by_cases e : k = n
      · subst e
        rw [if_pos rfl, if_pos rfl]
        exact ⟨q0, q1, fun i hi => (q2 i hi).trans (p2 i hi).symm, hs3⟩
      · rw [if_neg e, if_neg e]
        obtain ⟨x, y, z, w⟩ := h.2.2.2.2.1 k hk
        refine ⟨(qw _ _ (fun z => by unfold W_X2_become at z; omega)).trans x, (qw _ _ (fun z => by unfold W_X2_become at z; omega)).trans y, fun i hi => ?_, w⟩
        rw [p3 _ (by omega)]
        exact (qw _ _ (fun z => by unfold W_X2_become at z; omega)).trans ((z i hi).trans (congrFun ((zg_row_ne (by decide)).trans (zg_row_ne (by decide))) _).symm)
  have mainR : ∀ (ln : Int32) (P : z2 (zbd (f_X2_become (53 + 2 * n) b ln σ) (fun _ s => some (ln, s))) (zbd (L_X7_sheet_69 a b c zfu 0 (zg_up (zg_up τ 4 n b) 5 n ln)) (fun r t => some (r, t))) SM), (if 0 ≤ b then c else 0) = ln → z2 (zbd (f_X2_become (53 + 2 * n) b ln σ) (fun _ s => some (ln, s))) (B_X7_sheet_44 a b c τ) SM := fun ln P hl => by
    obtain ⟨r, s, r', t, x1, x2, x3⟩ := P
    refine ⟨r, s, r', t, x1, ?_, x3⟩
    have x2' : L_X7_sheet_69 a b c zfu 0 (zg_up (zg_up τ 4 n b) 5 n ln) = some (r', t) := by
      obtain ⟨u, v, y1, y2⟩ := zBd x2
      rw [y1]
      exact y2
    unfold B_X7_sheet_44 B_X7_sheet_65
    rw [if_pos zi, en]
    show (if 0 ≤ b then (if zin a 4 = true then zlet (zg_up (zg_up τ 4 n b) 5 n c) (fun σ21 => L_X7_sheet_69 a b c zfu 0 σ21) else none) else (if zin a 4 = true then zlet (zg_up (zg_up τ 4 n b) 5 n 0) (fun σ21 => L_X7_sheet_69 a b c zfu 0 σ21) else none)) = some (r', t)
    rw [if_pos zi, if_pos zi]
    by_cases d : 0 ≤ b
    · rw [if_pos d] at hl ⊢
      subst hl
      exact x2'
    · rw [if_neg d] at hl ⊢
      subst hl
      exact x2'
  unfold B_X7_sheet_32
  rw [en]
  refine z2_iL (fun hb => ?_) (fun hb => ?_)
  · have hb' : b < 0 := by rw [hb]; decide
    refine z2_pL zi ?_
    refine z2_pR hb' (z2_pR hb' ?_)
    have hm := mainR 0 (main b 0 0 rfl (Or.inl hb) (by omega) (by omega) rfl) (if_neg (by rw [hb]; decide))
    obtain ⟨r, s, r', t, x1, x2, x3⟩ := hm
    exact ⟨r, s, r', t, by rw [← hb]; exact x1, x2, x3⟩
  · have g0 := zne hb
    have nb : ¬ b < 0 := nlt_i (by omega)
    have pb : 0 ≤ b := Int32.le_iff_toInt_le.mpr (by omega)
    have b3 : b = -1 ∨ b = 0 ∨ b = 1 := by
      have ii : ∀ x : Int32, b.toInt = x.toInt → b = x := fun x hx => Int32.toInt_inj.mp hx
      have c01 : b.toInt = 0 ∨ b.toInt = 1 := by omega
      rcases c01 with c | c
      · exact Or.inr (Or.inl (ii 0 (by omega)))
      · exact Or.inr (Or.inr (ii 1 (by omega)))
    refine z2_nR nb ?_
    refine z2_iL (fun hc => ?_) (fun hc => z2_nR hc (z2_some (SM.rf h)))
    refine z2_pR hc (z2_nR nb ?_)
    refine z2_iL (fun hd => ?_) (fun hd => z2_nR hd (z2_some (SM.rf h)))
    refine z2_pL zi (z2_pR hd ?_)
    have c1 := zle hc
    have c2 := zle hd
    exact mainR c (main b c c rfl b3 (by omega) (by omega) rfl) (if_pos pb)
theorem c_missing {σ τ : zg_S} (h : RR σ τ) {n : Nat} (hn : n < 4) : (τ 4 n < 0 ∧ f_X2_isMissing (53 + 2 * n) σ = some (1, σ)) ∨ (¬ τ 4 n < 0 ∧ 0 ≤ τ 4 n ∧ f_X2_isMissing (53 + 2 * n) σ = some (0, σ)) := by
  obtain ⟨x, _, _, w⟩ := h.2.2.2.2.1 n hn
  unfold f_X2_isMissing
  rw [x]
  rcases w with w | w | w
  · rw [w]; exact Or.inl ⟨by decide, rfl⟩
  · rw [w]; exact Or.inr ⟨by decide, by decide, rfl⟩
  · rw [w]; exact Or.inr ⟨by decide, by decide, rfl⟩
end
section
/-! copy, lay, reads -/
theorem lgs (a b c : Int32) : (0 < lg_cmp (a.toInt64 + b.toInt64) c.toInt64) ↔ c.toInt < a.toInt + b.toInt := by
  have h1 := Int32.toInt_lt a
  have h2 := Int32.toInt_lt b
  have h3 := Int32.le_toInt a
  have h4 := Int32.le_toInt b
  rw [lg_cmp_gt, Int64.lt_iff_toInt_lt, Int64.toInt_add, zI64, zI64, zI64, Int.bmod_eq_of_le (by omega) (by omega)]
theorem c_hasPlaces {q : Nat} {a b : Int32} {σ : zg_S} : (f_X2_hasPlaces q a b σ = some (1, σ) ∧ 0 ≤ a.toInt ∧ 0 ≤ b.toInt ∧ a.toInt + b.toInt ≤ (σ q 1).toInt) ∨ (f_X2_hasPlaces q a b σ = some (0, σ) ∧ ¬ (0 ≤ a.toInt ∧ 0 ≤ b.toInt ∧ a.toInt + b.toInt ≤ (σ q 1).toInt)) := by
  have e0 := zt_0
  unfold f_X2_hasPlaces
  by_cases c1 : a < 0
  · rw [if_pos c1]
    have := zlt c1
    exact Or.inr ⟨rfl, by omega⟩
  rw [if_neg c1]
  have g1 := znlt c1
  by_cases c2 : b < 0
  · rw [if_pos c2]
    have := zlt c2
    exact Or.inr ⟨rfl, by omega⟩
  rw [if_neg c2]
  have g2 := znlt c2
  by_cases c3 : 0 < lg_cmp (a.toInt64 + b.toInt64) (σ q 1).toInt64
  · rw [if_pos c3]
    have := (lgs a b (σ q 1)).mp c3
    exact Or.inr ⟨rfl, by omega⟩
  · rw [if_neg c3]
    have g3 : ¬ (σ q 1).toInt < a.toInt + b.toInt := fun z => c3 ((lgs a b (σ q 1)).mpr z)
    exact Or.inl ⟨rfl, by omega, by omega, by omega⟩
theorem r_copy (a1 a2 a3 a4 a5 : Int32) (n1 n3 x y m : Nat) (h1 : a1.toInt = n1) (h2 : a2.toInt = x) (h3 : a3.toInt = n3) (h4 : a4.toInt = y) (h5 : a5.toInt = m) (b1 : n1 < 4) (b3 : n3 < 4) (c1 : x + m ≤ 24) (c3 : y + m ≤ 24) (τ : zg_S) : zk (L_X7_copy_113 a1 a2 a3 a4 a5 zfu 0 τ) (fun r t => r = a5 ∧ (∀ p, p ≠ 6 → p ≠ 16 → t p = τ p) ∧ ∀ j, t 6 j = if 24 * n3 + y ≤ j ∧ j < 24 * n3 + y + m then τ 6 (24 * n1 + x + (j - (24 * n3 + y))) else τ 6 j) := by
  have e0 := zt_0
  have e1 := zt_1
  have e24 := zt_24
  unfold L_X7_copy_113
  refine zl_I (fun (u : Int32) (s : zg_S) => ∃ i : Nat, u.toInt = i ∧ i ≤ m ∧ (∀ p, p ≠ 16 → s p = τ p) ∧ ∀ k, k < i → s 16 k = τ 6 (24 * n1 + x + k)) (fun (u : Int32) (_ : zg_S) => (24 - u.toInt).toNat) ?_ zfu _ _ ⟨0, e0, by omega, fun _ _ => rfl, fun k hk => by omega⟩ (by unfold zfu; omega)
  intro rec u s hI ih
  obtain ⟨i, hi, hi2, hp, hc⟩ := hI
  unfold B_X7_copy_113
  refine zk_ite (fun hle => ?_) (fun hlt => ?_)
  · have gl := zle hle
    unfold L_X7_copy_150
    refine zl_I (fun (u : Int32) (t : zg_S) => ∃ k : Nat, u.toInt = k ∧ k ≤ m ∧ (∀ p, p ≠ 6 → t p = s p) ∧ ∀ j, t 6 j = if 24 * n3 + y ≤ j ∧ j < 24 * n3 + y + k then τ 6 (24 * n1 + x + (j - (24 * n3 + y))) else τ 6 j) (fun (u : Int32) (_ : zg_S) => (24 - u.toInt).toNat) ?_ zfu _ _ ⟨0, e0, by omega, fun _ _ => rfl, fun j => by rw [if_neg (by omega), hp 6 (by decide)]⟩ (by unfold zfu; omega)
    intro rec2 u t hI ih2
    obtain ⟨k, hk, hk2, hp2, hv⟩ := hI
    unfold B_X7_copy_150
    refine zk_ite (fun hle => ?_) (fun hlt => ?_)
    · have := zle hle
      refine zk_some ⟨rfl, fun p p6 p16 => (hp2 p p6).trans (hp p p16), fun j => ?_⟩
      rw [hv j, show k = m by omega]
    · have gk := znle hlt
      have nk := ztn (i := u) (by omega)
      refine zk_in (zin_mk (by omega) (by omega)) (zk_let (fun v ev => ?_))
      have pi := zTadd (zTadd (zTmul (zTl zt_24) (zTs a3) (by omega) (by omega)) (zTs a4) (by omega) (by omega)) (zTs u) (by omega) (by omega)
      have ii := zTn pi (show (24 * a3.toInt + a4.toInt + u.toInt : Int) = ((24 * n3 + y + k : Nat) : Int) by omega)
      refine zk_in (zin_mkT pi (by omega) (by omega)) (zk_let (fun t2 q2 => ?_))
      rw [ii] at q2
      rw [show u.toNatClampNeg = k by omega, hp2 16 (by decide), hc k (by omega)] at ev
      have ex := zTe (zTadd (zTs u) (zTl zt_1) (by omega) (by omega))
      refine ih2 (u + 1) t2 ⟨k + 1, by rw [ex, hk]; rfl, by omega, fun p hp6 => by rw [q2]; exact (zg_row_ne hp6).trans (hp2 p hp6), fun j => ?_⟩ (by show (24 - (u + 1).toInt).toNat < (24 - u.toInt).toNat; rw [ex]; omega)
      rw [q2]
      by_cases e : j = 24 * n3 + y + k
      · subst e
        rw [if_pos (by omega), show 24 * n3 + y + k - (24 * n3 + y) = k by omega, ← ev]
        exact zgot
      · refine (zkeepn e).trans ((hv j).trans ?_)
        by_cases c : 24 * n3 + y ≤ j ∧ j < 24 * n3 + y + k
        · rw [if_pos c, if_pos (by omega)]
        · rw [if_neg c, if_neg (by omega)]
  · have gl := znle hlt
    have ni := ztn (i := u) (by omega)
    have pi := zTadd (zTadd (zTmul (zTl zt_24) (zTs a1) (by omega) (by omega)) (zTs a2) (by omega) (by omega)) (zTs u) (by omega) (by omega)
    have ii := zTn pi (show (24 * a1.toInt + a2.toInt + u.toInt : Int) = ((24 * n1 + x + i : Nat) : Int) by omega)
    refine zk_in (zin_mkT pi (by omega) (by omega)) (zk_let (fun v ev => ?_))
    rw [ii, hp 6 (by decide)] at ev
    refine zk_in (zin_mk (by omega) (by omega)) (zk_let (fun t2 q2 => ?_))
    rw [show u.toNatClampNeg = i by omega] at q2
    have ex := zTe (zTadd (zTs u) (zTl zt_1) (by omega) (by omega))
    refine ih (u + 1) t2 ⟨i + 1, by rw [ex, hi]; rfl, by omega, fun p hp6 => by rw [q2]; exact (zg_row_ne hp6).trans (hp p hp6), fun k hk => ?_⟩ (by show (24 - (u + 1).toInt).toNat < (24 - u.toInt).toNat; rw [ex]; omega)
    rw [q2]
    by_cases e : k = i
    · subst e
      exact zgot.trans ev
    · exact (zkeepn e).trans (hc k (by omega))
theorem v_copy {σ τ : zg_S} (h : RR σ τ) (hM : IMc τ) (a1 a2 a3 a4 a5 : Int32) : z2 (f_X6_copy a1 a2 a3 a4 a5 σ) (f_X7_copy a1 a2 a3 a4 a5 τ) SM := by
  have e0 := zt_0
  unfold f_X6_copy f_X7_copy
  refine z2_sheet (z2_pL rfl (z2_pR rfl (z2_some (SM.rf h)))) (fun n1 hn1 b1 en1 zi1 => z2_nL one_ne (z2_nR one_ne ?_))
  refine z2_sheet (z2_pL rfl (z2_pR rfl (z2_some (SM.rf h)))) (fun n3 hn3 b3 en3 zi3 => z2_nL one_ne (z2_nR one_ne ?_))
  refine z2_pL zi1 (z2_pL zi3 (z2_pR zi1 ?_))
  rw [en1, en3]
  have f1 : 0 ≤ (τ 5 n1).toInt ∧ (τ 5 n1).toInt ≤ 24 := hM 5 n1
  have f3 : 0 ≤ (τ 5 n3).toInt ∧ (τ 5 n3).toInt ≤ 24 := hM 5 n3
  obtain ⟨x1, y1, z1, w1⟩ := h.2.2.2.2.1 n1 b1
  obtain ⟨x3, y3, z3, w3⟩ := h.2.2.2.2.1 n3 b3
  rcases c_missing h b1 with ⟨m1, e1⟩ | ⟨m1, m1', e1⟩
  · exact z2_eL e1 (z2_nL one_ne (z2_pR m1 (z2_some (SM.rf h))))
  refine z2_eL e1 (z2_pL rfl (z2_nR m1 (z2_pR zi3 ?_)))
  rcases c_missing h b3 with ⟨m3, e3⟩ | ⟨m3, m3', e3⟩
  · refine z2_eL e3 (z2_nL one_ne (z2_nR (fun z => ?_) (z2_some (SM.rf h))))
    have := zle z
    have := zlt m3
    omega
  refine z2_eL e3 (z2_pL rfl (z2_pR m3' ?_))
  rw [x1, x3]
  refine z2_iL (fun hs => z2_pR hs ?_) (fun hs => z2_nR hs (z2_some (SM.rf h)))
  -- the reference's way to refuse
  have bad : ¬ ((0 ≤ a2.toInt ∧ 0 ≤ a5.toInt ∧ a2.toInt + a5.toInt ≤ (τ 5 n1).toInt) ∧ (0 ≤ a4.toInt ∧ 0 ≤ a5.toInt ∧ a4.toInt + a5.toInt ≤ (τ 5 n3).toInt)) → z2 (some ((-1000000013 : Int32), σ)) (if a2 < 0 then some (-1000000013, τ) else (if a4 < 0 then some (-1000000013, τ) else (if a5 < 0 then some (-1000000013, τ) else (if 0 < (lg_cmp ((Int32.toInt64 a2) + (Int32.toInt64 a5)) (Int32.toInt64 (τ 5 n1))) then some (-1000000013, τ) else (if (lg_cmp ((Int32.toInt64 a4) + (Int32.toInt64 a5)) (Int32.toInt64 (τ 5 n3))) ≤ 0 then L_X7_copy_113 a1 a2 a3 a4 a5 zfu 0 τ else some (-1000000013, τ)))))) SM := fun hb => by
    refine z2_iR (fun _ => z2_some (SM.rf h)) (fun c2 => ?_)
    refine z2_iR (fun _ => z2_some (SM.rf h)) (fun c4 => ?_)
    refine z2_iR (fun _ => z2_some (SM.rf h)) (fun c5 => ?_)
    refine z2_iR (fun _ => z2_some (SM.rf h)) (fun c6 => ?_)
    refine z2_iR (fun c7 => ?_) (fun _ => z2_some (SM.rf h))
    have g2 := znlt c2
    have g4 := znlt c4
    have g5 := znlt c5
    have g6 : ¬ (τ 5 n1).toInt < a2.toInt + a5.toInt := fun z => c6 ((lgs _ _ _).mpr z)
    have g7 : ¬ (τ 5 n3).toInt < a4.toInt + a5.toInt := fun z => by
      have := zlt ((lgs a4 a5 (τ 5 n3)).mpr z)
      have := zle c7
      omega
    exact absurd ⟨⟨by omega, by omega, by omega⟩, ⟨by omega, by omega, by omega⟩⟩ hb
  have p1 := c_hasPlaces (q := 53 + 2 * n1) (a := a2) (b := a5) (σ := σ)
  have p3 := c_hasPlaces (q := 53 + 2 * n3) (a := a4) (b := a5) (σ := σ)
  rw [y1] at p1
  rw [y3] at p3
  rcases p1 with ⟨q1, r1⟩ | ⟨q1, r1⟩
  · refine z2_eL q1 (z2_nL one_ne ?_)
    rcases p3 with ⟨q3, r3⟩ | ⟨q3, r3⟩
    · refine z2_eL q3 (z2_nL one_ne ?_)
      have n2 := ztn r1.1
      have n4 := ztn r3.1
      have n5 := ztn r1.2.1
      refine z2_pL ⟨nlt_i (by omega), nlt_i (by omega), nlt_i (by omega), by omega, by omega⟩ (z2_lL (fun s qs => ?_))
      refine z2_nR (nlt_i (by omega)) (z2_nR (nlt_i (by omega)) (z2_nR (nlt_i (by omega)) ?_))
      refine z2_nR (fun z => by have := (lgs _ _ _).mp z; omega) ?_
      refine z2_pR (Int32.le_iff_toInt_le.mpr ?_) ?_
      · refine Int.not_lt.mp (fun z => ?_)
        have := (lgs a4 a5 (τ 5 n3)).mp (lt_i (by omega))
        omega
      · obtain ⟨r', t, et, t1, t2, t3⟩ := r_copy a1 a2 a3 a4 a5 n1 n3 a2.toNatClampNeg a4.toNatClampNeg a5.toNatClampNeg hn1 (by omega) hn3 (by omega) (by omega) b1 b3 (by omega) (by omega) τ
        refine ⟨a5, s, r', t, rfl, et, t1.symm, h.r5 (fun p k hp => ?_) (fun p k hp => by rw [t2 p (by omega) (by omega)]) (fun k hk => ?_)⟩
        · rw [qs]
          exact congrFun (zg_row_ne (by omega)) k
        · rw [t2 4 (by decide) (by decide), t2 5 (by decide) (by decide)]
          obtain ⟨x, y, z, w⟩ := h.2.2.2.2.1 k hk
          have so : ∀ r, r ≠ 53 + 2 * n3 + 1 → s r = σ r := fun r hr => by rw [qs]; exact zg_row_ne hr
          refine ⟨by rw [so _ (by omega)]; exact x, by rw [so _ (by omega)]; exact y, fun i hi => ?_, w⟩
          rw [t3]
          by_cases e : k = n3
          · subst e
            rw [qs, zg_row_eq]
            by_cases c : a4.toNatClampNeg ≤ i ∧ i < a4.toNatClampNeg + a5.toNatClampNeg
            · rw [pk_cpy_in c.1 c.2, if_pos (by omega), z1 _ (by omega)]
              congr 1
              omega
            · rw [pk_cpy_out (by omega), if_neg (by omega)]
              exact z i hi
          · rw [so _ (by omega), if_neg (by omega)]
            exact z i hi
    · refine z2_eL q3 (z2_pL rfl (bad (fun z => r3 z.2)))
  · exact z2_eL q1 (z2_pL rfl (bad (fun z => r1 z.1)))
end
section
/-! without -/
def sU (g : Nat → Int32) (n i : Nat) : Int32 := sGn (upd g (11 + 4 * i + 3) 0) n 3
def sWo (g : Nat → Int32) (n : Nat) : Nat → Int32 × Int32
  | 0 => (0, -1)
  | i + 1 => if sU g n i ≤ (sWo g n i).2 then sWo g n i else (Int32.ofNat i, sU g n i)
theorem sWo_0 {g : Nat → Int32} {n : Nat} (h : 0 ≤ (sU g n 0).toInt) : sWo g n 1 = (0, sU g n 0) := by
  have em := zt_m1
  show (if sU g n 0 ≤ (-1 : Int32) then _ else _) = _
  rw [if_neg (fun z => by have := zle z; omega)]
  rfl
theorem v_without {σ τ : zg_S} (h : RR σ τ) (a b : Int32) : z2 (f_X6_without a b σ) (f_X7_without a b τ) SM := by
  have e0 := zt_0
  have e1 := zt_1
  have em := zt_m1
  have e60 := zt_60
  obtain ⟨hE, hT, o, hC, h99⟩ := id h.1
  have es : σ 153 3 = τ 1 0 := h.f 0 (by decide)
  have n0 := o.1.1
  have nn := ztn n0.1
  by_cases ca : (1 : Int32).toInt ≤ a.toInt ∧ a.toInt ≤ (60 : Int32).toInt
  · by_cases cb : (0 : Int32).toInt ≤ b.toInt ∧ b.toInt ≤ (1 : Int32).toInt
    · refine th h ?_ (w_X6_without a b σ) (fun p k z => WT z)
      have uok : ∀ i : Nat, i < 9 → gOK (upd (τ 1) (11 + 4 * i + 3) 0) := fun i hi => o.cl (j := 3) hi (by decide) (by omega) (by show (0 : Int32).toInt ≤ 99; omega)
      have uC : ∀ i : Nat, gC (upd (τ 1) (11 + 4 * i + 3) 0) := fun i => gC_un hC (by omega)
      have u2 : ∀ i : Nat, upd (τ 1) (11 + 4 * i + 3) 0 2 = τ 1 2 := fun i => pk_un (by omega)
      have uS : ∀ i : Nat, i < 9 → STx (τ 1) (upd (τ 1) (11 + 4 * i + 3) 0) := fun i hi => STx.rf.up (by omega) (by omega)
      have ub : ∀ i : Nat, i < 9 → 0 ≤ (sU (τ 1) a.toInt.toNat i).toInt := fun i hi => by
        obtain ⟨_, x2, _⟩ := sGn_ok (uok i hi) (uC i) a.toInt.toNat (by rw [u2]; omega)
        exact x2.1.1
      have C : ¬ τ 1 0 = 0 → zk (L_X6_without_43 a b zfu 0 (-1) 0 σ) (fun r _ => r = if b = 0 then (sWo (τ 1) a.toInt.toNat (τ 1 0).toNatClampNeg).1 else (sWo (τ 1) a.toInt.toNat (τ 1 0).toNatClampNeg).2) := fun _ => by
        unfold L_X6_without_43
        refine zl_III (fun (x3 x4 x5 : Int32) (s : zg_S) => wr W_X6_thinkOn σ s ∧ ∃ i : Nat, x5.toInt = i ∧ (i : Int) ≤ (τ 1 0).toInt ∧ (x3, x4) = sWo (τ 1) a.toInt.toNat i) (fun (_ _ x5 : Int32) (_ : zg_S) => (9 - x5.toInt).toNat) ?_ zfu _ _ _ _ ⟨wr.rf, 0, e0, by omega, rfl⟩ (by unfold zfu; omega)
        intro rec x3 x4 x5 s hI ih
        obtain ⟨hw, i, hi, hi2, hx⟩ := hI
        have hx3 : x3 = (sWo (τ 1) a.toInt.toNat i).1 := congrArg Prod.fst hx
        have hx4 : x4 = (sWo (τ 1) a.toInt.toNat i).2 := congrArg Prod.snd hx
        obtain ⟨sE, sT⟩ := now_w hE hT n0.2 o.2.2.1.2 hw
        unfold B_X6_without_43
        rw [show s 153 3 = τ 1 0 from sE.f 0 (by decide)]
        refine zk_ite (fun hle => ?_) (fun hlt => ?_)
        · have := zle hle
          rw [show (τ 1 0).toNatClampNeg = i by omega]
          exact zk_ite (fun hb => zk_some (by rw [if_pos hb]; exact hx3)) (fun hb => zk_some (by rw [if_neg hb]; exact hx4))
        · have gl := znle hlt
          have ni := ztn (i := x5) (by omega)
          have ex := zTe (zTadd (zTs x5) (zTl zt_1) (by omega) (by omega))
          refine zk_call (c_over hE hT o hw) (fun _ t q => ?_)
          refine zk_in (zin_mk (by omega) (by omega)) (zk_let (fun t2 q2 => ?_))
          rw [show x5.toNatClampNeg = i by omega] at q2
          have E2 : EQB t2 165 (upd (τ 1) (11 + 4 * i + 3) 0) := by rw [q2]; exact q.1.1.upS i 3 (by decide)
          have T2 : TXR t2 165 (upd (τ 1) (11 + 4 * i + 3) 0) := by rw [q2]; exact (txr_up q.1.2 o.2.2.1.2 (by omega) (by omega)).st (uS i (by omega))
          have w2 : wr W_X6_thinkOn σ t2 := by rw [q2]; exact q.2.up (by unfold W_X6_thinkOn; omega)
          refine zk_call (c_think E2 T2 (uok i (by omega)) (uC i) a (by omega) (by rw [u2]; omega)) (fun _ t3 q3 => ?_)
          rw [show t3 165 10 = sU (τ 1) a.toInt.toNat i from q3.1.1.f 3 (by decide)]
          have w3 := w2.tr q3.2 (fun _ _ z => z)
          have eW : sWo (τ 1) a.toInt.toNat (i + 1) = if sU (τ 1) a.toInt.toNat i ≤ (sWo (τ 1) a.toInt.toNat i).2 then sWo (τ 1) a.toInt.toNat i else (Int32.ofNat i, sU (τ 1) a.toInt.toNat i) := rfl
          have nx7 : ∀ y z : Int32, (y, z) = sWo (τ 1) a.toInt.toNat (i + 1) → zk (B_X6_without_109 a b rec y z x5 t3) (fun r _ => r = if b = 0 then (sWo (τ 1) a.toInt.toNat (τ 1 0).toNatClampNeg).1 else (sWo (τ 1) a.toInt.toNat (τ 1 0).toNatClampNeg).2) := fun y z hyz => by
            unfold B_X6_without_109
            exact ih y z (x5 + 1) t3 ⟨w3, i + 1, by rw [ex, hi]; rfl, by omega, hyz⟩ (by show (9 - (x5 + 1).toInt).toNat < (9 - x5.toInt).toNat; rw [ex]; omega)
          refine zk_ite (fun hc => nx7 _ _ ?_) (fun hc => nx7 _ _ ?_)
          · rw [hx4] at hc
            rw [eW, if_pos hc]
            exact hx
          · rw [hx4] at hc
            rw [eW, if_neg hc, ofNe hi]
      unfold f_X6_without f_X7_without
      refine z2_eL (c_within1 σ ca) (z2_nL one_ne (z2_eL (c_within1 σ cb) (z2_nL one_ne ?_)))
      refine z2_eR (r_isIn1 τ ca) (z2_nR one_ne (z2_eR (r_isIn1 τ cb) (z2_nR one_ne ?_)))
      refine z2_cR (r_by' τ) (fun _ t p => ?_)
      have D : zk (L_X7_without_37 a b zfu (-1) 0 0 t) (fun r u => (r = if τ 1 0 = 0 then -1000000005 else if b = 0 then (sWo (τ 1) a.toInt.toNat (τ 1 0).toNatClampNeg).1 else (sWo (τ 1) a.toInt.toNat (τ 1 0).toNatClampNeg).2) ∧ u 1 = τ 1 ∧ KB τ u) := by
        unfold L_X7_without_37
        refine zl_III (fun (x3 x4 x5 : Int32) (s : zg_S) => s 1 = τ 1 ∧ KB τ s ∧ ∃ i : Nat, x5.toInt = i ∧ (i : Int) ≤ (τ 1 0).toInt ∧ ((i = 0 ∧ x3 = -1) ∨ (1 ≤ i ∧ (x3, x4) = sWo (τ 1) a.toInt.toNat i ∧ 0 ≤ x3.toInt))) (fun (_ _ x5 : Int32) (_ : zg_S) => (9 - x5.toInt).toNat) ?_ zfu _ _ _ _ ⟨p.1, p.2, 0, e0, by omega, Or.inl ⟨rfl, rfl⟩⟩ (by unfold zfu; omega)
        intro rec x3 x4 x5 s hI ih
        obtain ⟨hs, kb, i, hi, hi2, hx⟩ := hI
        unfold B_X7_without_37
        rw [show s 1 0 = τ 1 0 from congrFun hs 0]
        refine zk_ite (fun hle => ?_) (fun hlt => ?_)
        · have := zle hle
          have ei : (τ 1 0).toNatClampNeg = i := by omega
          rcases hx with ⟨hx0, hx3⟩ | ⟨hx0, hxx, hx3⟩
          · refine zk_ite (fun z => absurd (zle z) (by rw [hx3, em]; omega)) (fun _ => zk_some ⟨?_, hs, kb⟩)
            rw [if_pos (Int32.toInt_inj.mp (by omega))]
          · have hn : ¬ τ 1 0 = 0 := fun z => by have := congrArg Int32.toInt z; omega
            refine zk_ite (fun _ => ?_) (fun z => absurd (Int32.le_iff_toInt_le.mpr (by omega)) z)
            rw [ei, if_neg hn]
            exact zk_ite (fun hb => zk_some ⟨by rw [if_pos hb]; exact congrArg Prod.fst hxx, hs, kb⟩) (fun hb => zk_some ⟨by rw [if_neg hb]; exact congrArg Prod.snd hxx, hs, kb⟩)
        · have gl := znle hlt
          have ex := zTe (zTadd (zTs x5) (zTl zt_1) (by omega) (by omega))
          refine zk_e (r_sets hs hi (by omega) zt_3 (by decide)) ?_
          have d1 : zg_up s 1 (11 + 4 * i + 3) 0 1 = upd (τ 1) (11 + 4 * i + 3) 0 := up_row hs
          have k1 : KB τ (zg_up s 1 (11 + 4 * i + 3) 0) := kb.w (W := fun p _ => p = 1) (fun p k hp => congrFun (zg_row_ne hp) k) (fun p k z => Or.inl z)
          generalize zg_up s 1 (11 + 4 * i + 3) 0 = t1 at d1 k1 ⊢
          refine zk_call (r_many d1 (uok i (by omega)) (uC i) (hT.tv.st (uS i (by omega))) a (by omega) (by rw [u2]; omega)) (fun _ t3 p3 => ?_)
          obtain ⟨_, _, _, st, _⟩ := sGn_ok (uok i (by omega)) (uC i) a.toInt.toNat (by rw [u2]; omega)
          have k3 := k1.w p3.2 (fun p k z => by unfold W_X7_goesOnMany at z; omega)
          refine zk_call (r_bk' k3 (fun k hk => by rw [p3.1]; exact (st.2 k hk).trans ((uS i (by omega)).2 k hk))) (fun _ t4 p4 => ?_)
          rw [show t3 1 3 = sU (τ 1) a.toInt.toNat i from congrFun p3.1 3]
          have eW : sWo (τ 1) a.toInt.toNat (i + 1) = if sU (τ 1) a.toInt.toNat i ≤ (sWo (τ 1) a.toInt.toNat i).2 then sWo (τ 1) a.toInt.toNat i else (Int32.ofNat i, sU (τ 1) a.toInt.toNat i) := rfl
          have nx7 : ∀ y z : Int32, (y, z) = sWo (τ 1) a.toInt.toNat (i + 1) → 0 ≤ y.toInt → zk (B_X7_without_91 a b rec y z x5 t4) (fun r u => (r = if τ 1 0 = 0 then -1000000005 else if b = 0 then (sWo (τ 1) a.toInt.toNat (τ 1 0).toNatClampNeg).1 else (sWo (τ 1) a.toInt.toNat (τ 1 0).toNatClampNeg).2) ∧ u 1 = τ 1 ∧ KB τ u) := fun y z hyz hy => by
            unfold B_X7_without_91
            exact ih y z (x5 + 1) t4 ⟨p4.1, p4.2, i + 1, by rw [ex, hi]; rfl, by omega, Or.inr ⟨by omega, hyz, hy⟩⟩ (by show (9 - (x5 + 1).toInt).toNat < (9 - x5.toInt).toNat; rw [ex]; omega)
          unfold B_X7_without_84
          rcases hx with ⟨hx0, hx3⟩ | ⟨hx0, hxx, hx3⟩
          · refine zk_ite (fun _ => nx7 _ _ ?_ (by omega)) (fun z => absurd (show x3 < 0 by rw [hx3]; decide) z)
            subst hx0
            rw [sWo_0 (ub 0 (by omega)), ofNe hi]
            rfl
          · refine zk_ite (fun z => absurd (zlt z) (by omega)) (fun _ => ?_)
            have hx4 : x4 = (sWo (τ 1) a.toInt.toNat i).2 := congrArg Prod.snd hxx
            refine zk_ite (fun hc => nx7 _ _ ?_ hx3) (fun hc => nx7 _ _ ?_ (by omega))
            · rw [hx4] at hc
              rw [eW, if_pos hc]
              exact hxx
            · rw [hx4] at hc
              rw [eW, if_neg hc, ofNe hi]
      rw [es]
      refine z2_iL (fun hz => ?_) (fun hz => ?_)
      · obtain ⟨r', u, eu, v1, v2⟩ := D
        rw [eu]
        rw [if_pos hz] at v1
        exact z2_some ⟨v1.symm, v2⟩
      · refine z2_kk (C hz) D (fun r s r' t q q' => ⟨?_, q'.2⟩)
        rw [q, q'.1, if_neg hz]
    · refine th0 (r := -1000000001) h ?_ ?_
      · unfold f_X6_without
        rw [c_within1 σ ca, zbd_s, if_neg one_ne, c_within0 σ cb]
        rfl
      · unfold f_X7_without
        rw [r_isIn1 τ ca, zbd_s, if_neg one_ne, r_isIn0 τ cb]
        rfl
  · refine th0 (r := -1000000001) h ?_ ?_
    · unfold f_X6_without
      rw [c_within0 σ ca]
      rfl
    · unfold f_X7_without
      rw [r_isIn0 τ ca]
      rfl
end
section
/-! reads, pour, lay -/
theorem c_hasNumber {σ τ : zg_S} (h : RR σ τ) (hM : IMc τ) {n i : Nat} {a : Int32} (hn : n < 4) (ha : a.toInt = i) : f_X2_hasNumber (53 + 2 * n) a σ = some (if (i : Int) < (τ 5 n).toInt then (if τ 6 (24 * n + i) = -1000000005 then 0 else 1) else 0, σ) := by
  obtain ⟨_, y, z, _⟩ := h.2.2.2.2.1 n hn
  have f5 : 0 ≤ (τ 5 n).toInt ∧ (τ 5 n).toInt ≤ 24 := hM 5 n
  have en : a.toNatClampNeg = i := zTn (zTl ha) rfl
  unfold f_X2_hasNumber
  by_cases c : (i : Int) < (τ 5 n).toInt
  · rw [c_hasPlace1 (by rw [y]; exact f5.1) (by rw [y]; omega), zbd_s, if_neg one_ne, if_pos (zin_mk (by omega) (by omega)), en, z i (by omega), if_pos c]
    by_cases d : τ 6 (24 * n + i) = -1000000005
    · rw [if_pos d, if_pos d]
    · rw [if_neg d, if_neg d]
  · rw [c_hasPlace0 (by rw [y]; exact f5.1) (by rw [y]; omega), zbd_s, if_pos rfl, if_neg c]
/-- the first place that is not what the stall spoils -/
def rdA (g row : Nat → Int32) (len : Int) (i : Nat) : Prop := ¬ row i = -1000000005 ∧ (¬ (i : Int) < (g 0).toInt ∨ ¬ row i = sLs g i)
def rdR (g row : Nat → Int32) (len : Int) (r : Int32) : Prop := (r = -1000000005 ∧ ∀ i : Nat, (i : Int) < len → ¬ rdA g row len i) ∨ ∃ i : Nat, r.toInt = i ∧ (i : Int) < len ∧ rdA g row len i ∧ ∀ j : Nat, j < i → ¬ rdA g row len j
theorem rdR_u {g row : Nat → Int32} {len : Int} {r r' : Int32} (h : rdR g row len r) (h' : rdR g row len r') : r = r' := by
  rcases h with ⟨a, b⟩ | ⟨i, i1, i2, i3, i4⟩
  · rcases h' with ⟨c, d⟩ | ⟨j, j1, j2, j3, j4⟩
    · rw [a, c]
    · exact absurd j3 (b j j2)
  · rcases h' with ⟨c, d⟩ | ⟨j, j1, j2, j3, j4⟩
    · exact absurd i3 (d i i2)
    · refine Int32.toInt_inj.mp ?_
      by_cases x : i < j
      · exact absurd i3 (j4 i x)
      · by_cases y : j < i
        · exact absurd j3 (i4 j y)
        · omega
theorem v_reads {σ τ : zg_S} (h : RR σ τ) (hM : IMc τ) (a : Int32) : z2 (f_X6_reads a σ) (f_X7_reads a τ) SM := by
  refine ro h ?_ (w_X6_reads a σ) (w_X7_reads a τ) (fun p k z => z) (fun p k z => z)
  have e0 := zt_0
  have e1 := zt_1
  have e24 := zt_24
  obtain ⟨hE, hT, o, _⟩ := id h.1
  have n0 := o.1.1
  unfold f_X6_reads f_X7_reads
  refine z2_sheet (z2_pL rfl (z2_pR rfl (z2_some rfl))) (fun n hn h4 en zi => z2_nL one_ne (z2_nR one_ne (z2_pL zi (z2_pR zi ?_))))
  rw [en]
  have f5 : 0 ≤ (τ 5 n).toInt ∧ (τ 5 n).toInt ≤ 24 := hM 5 n
  rcases c_missing h h4 with ⟨m1, q1⟩ | ⟨m1, m2, q1⟩
  · refine z2_eL q1 (z2_nL one_ne (z2_nR (fun z => ?_) (z2_some rfl)))
    have := zle z
    have := zlt m1
    omega
  refine z2_eL q1 (z2_pL rfl (z2_pR m2 ?_))
  obtain ⟨_, y, z, _⟩ := h.2.2.2.2.1 n h4
  have C : zk (L_X6_reads_29 a zfu (53 + 2 * n) 0 σ) (fun r _ => rdR (τ 1) (fun i => τ 6 (24 * n + i)) (τ 5 n).toInt r) := by
    unfold L_X6_reads_29
    refine zl_NI (fun (q : Nat) (x : Int32) (s : zg_S) => q = 53 + 2 * n ∧ wr WS σ s ∧ ∃ i : Nat, x.toInt = i ∧ (i : Int) ≤ (τ 5 n).toInt ∧ ∀ j : Nat, j < i → ¬ rdA (τ 1) (fun i => τ 6 (24 * n + i)) (τ 5 n).toInt j) (fun (_ : Nat) (x : Int32) (_ : zg_S) => (24 - x.toInt).toNat) ?_ zfu _ _ _ ⟨rfl, wr.rf, 0, e0, by omega, fun j hj => by omega⟩ (by unfold zfu; omega)
    intro rec q x s hI ih
    obtain ⟨rfl, hw, i, hi, hi2, hj⟩ := hI
    have hs : RR s τ := h.same (fun p k hp => hw p k (fun z => by unfold WS at z; unfold sideC at hp; omega)) (fun p k _ _ => hw p k (fun z => by unfold WS at z; omega)) (fun _ _ _ => rfl) rfl
    have ni := ztn (i := x) (by omega)
    unfold B_X6_reads_29
    rw [show s (53 + 2 * n) 1 = τ 5 n from (hs.2.2.2.2.1 n h4).2.1]
    refine zk_ite (fun hle => ?_) (fun hlt => ?_)
    · have := zle hle
      exact zk_some (Or.inl ⟨rfl, fun j hj' => hj j (by omega)⟩)
    · have gl := znle hlt
      have ex := zTe (zTadd (zTs x) (zTl zt_1) (by omega) (by omega))
      have nx7 : ∀ t : zg_S, wr WS σ t → ¬ rdA (τ 1) (fun i => τ 6 (24 * n + i)) (τ 5 n).toInt i → zk (B_X6_reads_80 a rec (53 + 2 * n) x t) (fun r _ => rdR (τ 1) (fun i => τ 6 (24 * n + i)) (τ 5 n).toInt r) := fun t ht hr => by
        unfold B_X6_reads_80
        refine ih (53 + 2 * n) (x + 1) t ⟨rfl, ht, i + 1, by rw [ex, hi]; rfl, by omega, fun j hj' => ?_⟩ (by show (24 - (x + 1).toInt).toNat < (24 - x.toInt).toNat; rw [ex]; omega)
        by_cases e : j = i
        · subst e; exact hr
        · exact hj j (by omega)
      have hN := c_hasNumber hs hM h4 hi
      rw [if_pos (by omega)] at hN
      refine zk_e hN ?_
      by_cases d : τ 6 (24 * n + i) = -1000000005
      · rw [if_pos d]
        refine zk_ite (fun _ => nx7 s hw (fun z => z.1 d)) (fun z => absurd rfl z)
      · rw [if_neg d]
        refine zk_ite (fun z => absurd z one_ne) (fun _ => ?_)
        have hit : (¬ (i : Int) < (τ 1 0).toInt ∨ ¬ τ 6 (24 * n + i) = sLs (τ 1) i) → rdR (τ 1) (fun i => τ 6 (24 * n + i)) (τ 5 n).toInt x := fun hc => Or.inr ⟨i, hi, by omega, ⟨d, hc⟩, hj⟩
        have e3 : s 153 3 = τ 1 0 := hs.f 0 (by decide)
        by_cases c : (i : Int) < (τ 1 0).toInt
        · refine zk_e (c_isStall1 (by rw [e3]; omega)) (zk_ite (fun z => absurd z one_ne) (fun _ => ?_))
          refine zk_in (zin_mk (by omega) (by omega)) (zk_in (zin_mk (by omega) (by omega)) ?_)
          rw [show x.toNatClampNeg = i by omega]
          refine zk_call (c_lossOf hs.1.1 hs.1.2.1 o (by decide) i c) (fun r t hq => ?_)
          rw [hq.1, (hs.2.2.2.2.1 n h4).2.2.1 i (by omega)]
          exact zk_ite (fun hv => nx7 t (hw.tr hq.2 (fun _ _ z => z)) (fun z => z.2.elim (fun y => y c) (fun y => y hv))) (fun hv => zk_some (hit (Or.inr hv)))
        · refine zk_e (c_isStall0 (by rw [e3]; exact n0.1) (by rw [e3]; omega)) (zk_ite (fun _ => zk_some (hit (Or.inl c))) (fun z => absurd rfl z))
  have D : zk (L_X7_reads_25 a zfu 0 τ) (fun r _ => rdR (τ 1) (fun i => τ 6 (24 * n + i)) (τ 5 n).toInt r) := by
    unfold L_X7_reads_25
    refine zl_I (fun (x : Int32) (t : zg_S) => (∀ p, p ≠ 14 → p ≠ 15 → t p = τ p) ∧ ∃ i : Nat, x.toInt = i ∧ (i : Int) ≤ (τ 5 n).toInt ∧ ∀ j : Nat, j < i → ¬ rdA (τ 1) (fun i => τ 6 (24 * n + i)) (τ 5 n).toInt j) (fun (x : Int32) (_ : zg_S) => (24 - x.toInt).toNat) ?_ zfu _ _ ⟨fun _ _ _ => rfl, 0, e0, by omega, fun j hj => by omega⟩ (by unfold zfu; omega)
    intro rec x t hI ih
    obtain ⟨hp, i, hi, hi2, hj⟩ := hI
    unfold B_X7_reads_25
    refine zk_in zi ?_
    rw [en, hp 5 (by decide) (by decide), hp 6 (by decide) (by decide), hp 1 (by decide) (by decide)]
    refine zk_ite (fun hle => ?_) (fun hlt => ?_)
    · have := zle hle
      exact zk_some (Or.inl ⟨rfl, fun j hj' => hj j (by omega)⟩)
    · have gl := znle hlt
      have ex := zTe (zTadd (zTs x) (zTl zt_1) (by omega) (by omega))
      have pi := zTadd (zTmul (zTl zt_24) (zTs a) (by omega) (by omega)) (zTs x) (by omega) (by omega)
      have ii := zTn pi (show (24 * a.toInt + x.toInt : Int) = ((24 * n + i : Nat) : Int) by omega)
      refine zk_in (zin_mkT pi (by omega) (by omega)) (zk_let (fun v ev => ?_))
      rw [ii] at ev
      subst ev
      have nx7 : ∀ u : zg_S, (∀ p, p ≠ 14 → p ≠ 15 → u p = τ p) → ¬ rdA (τ 1) (fun i => τ 6 (24 * n + i)) (τ 5 n).toInt i → zk (B_X7_reads_74 a rec x u) (fun r _ => rdR (τ 1) (fun i => τ 6 (24 * n + i)) (τ 5 n).toInt r) := fun u hu hr => by
        unfold B_X7_reads_74
        refine ih (x + 1) u ⟨hu, i + 1, by rw [ex, hi]; rfl, by omega, fun j hj' => ?_⟩ (by show (24 - (x + 1).toInt).toNat < (24 - x.toInt).toNat; rw [ex]; omega)
        by_cases e : j = i
        · subst e; exact hr
        · exact hj j (by omega)
      refine zk_ite (fun d => nx7 t hp (fun z => z.1 d)) (fun d => ?_)
      have hit : (¬ (i : Int) < (τ 1 0).toInt ∨ ¬ τ 6 (24 * n + i) = sLs (τ 1) i) → rdR (τ 1) (fun i => τ 6 (24 * n + i)) (τ 5 n).toInt x := fun hc => Or.inr ⟨i, hi, by omega, ⟨d, hc⟩, hj⟩
      refine zk_ite (fun hle => ?_) (fun hlt2 => ?_)
      · have := zle hle
        exact zk_some (hit (Or.inl (by omega)))
      · have g2 := znle hlt2
        refine zk_call (zk_w (r_spoils (hp 1 (by decide) (by decide)) o hT.tv hi (by omega)) (w_X7_spoils x t)) (fun r u hq => ?_)
        rw [hq.1.1]
        exact zk_ite (fun hv => nx7 u (fun p p1 p2 => (funext (fun k => hq.2 p k (by unfold W_X7_spoils; omega))).trans (hp p p1 p2)) (fun z => z.2.elim (fun y => y (by omega)) (fun y => y hv))) (fun hv => zk_some (hit (Or.inr hv)))
  exact z2_kk C D (fun r s r' t q q' => rdR_u q q')
/-- goods become the places of a sheet -/
def sPo (g row : Nat → Int32) (len : Int) : Nat → (Nat → Int32) × Int32
  | 0 => (g, 0)
  | i + 1 => if (i : Int) < len ∧ ¬ row i = -1000000005 then (upd (sPo g row len i).1 (11 + 4 * i + 2) (sHeld (row i) 0 999), (sPo g row len i).2 + if sHeld (row i) 0 999 = g (11 + 4 * i + 2) then 0 else 1) else sPo g row len i
theorem sPo_c {g row : Nat → Int32} {len : Int} {j : Nat} : ∀ i, (j < 11 ∨ 11 + 4 * i ≤ j ∨ j % 4 ≠ 1) → (sPo g row len i).1 j = g j := by
  intro i
  induction i with
  | zero => intro _; rfl
  | succ i ih =>
    intro hj
    show (if (i : Int) < len ∧ ¬ row i = -1000000005 then (upd (sPo g row len i).1 (11 + 4 * i + 2) (sHeld (row i) 0 999), (sPo g row len i).2 + if sHeld (row i) 0 999 = g (11 + 4 * i + 2) then 0 else 1) else sPo g row len i).1 j = g j
    by_cases c : (i : Int) < len ∧ ¬ row i = -1000000005
    · rw [if_pos c]
      show upd (sPo g row len i).1 (11 + 4 * i + 2) (sHeld (row i) 0 999) j = g j
      rw [pk_un (by omega)]
      exact ih (by omega)
    · rw [if_neg c]
      exact ih (by omega)
theorem sPo_ok {g row : Nat → Int32} {len : Int} (o : gOK g) : ∀ i : Nat, i ≤ 9 → gOK (sPo g row len i).1 := by
  have e999 := zt_999
  intro i
  induction i with
  | zero => intro _; exact o
  | succ i ih =>
    intro hi
    show gOK (if (i : Int) < len ∧ ¬ row i = -1000000005 then (upd (sPo g row len i).1 (11 + 4 * i + 2) (sHeld (row i) 0 999), (sPo g row len i).2 + if sHeld (row i) 0 999 = g (11 + 4 * i + 2) then 0 else 1) else sPo g row len i).1
    by_cases c : (i : Int) < len ∧ ¬ row i = -1000000005
    · rw [if_pos c]
      have := sHeld_b (row i) 999 (by omega)
      exact (ih (by omega)).go (by omega) (by omega)
    · rw [if_neg c]
      exact ih (by omega)
theorem sPo_e {g row : Nat → Int32} {len : Int} {i j : Nat} (hij : i ≤ j) (hl : len ≤ i) : sPo g row len j = sPo g row len i := by
  induction j with
  | zero => rw [show i = 0 by omega]
  | succ j ih =>
    by_cases e : i = j + 1
    · rw [e]
    · show (if (j : Int) < len ∧ ¬ row j = -1000000005 then _ else sPo g row len j) = _
      rw [if_neg (fun z => by have := z.1; omega)]
      exact ih (by omega)
end
section
/-! pour -/
theorem c_num {σ : zg_S} {n i : Nat} {len : Int32} {row : Nat → Int32} {a : Int32} (y : σ (53 + 2 * n) 1 = len) (z : ∀ i, i < 24 → σ (53 + 2 * n + 1) i = row i) (f5 : 0 ≤ len.toInt ∧ len.toInt ≤ 24) (ha : a.toInt = i) : f_X2_hasNumber (53 + 2 * n) a σ = some (if (i : Int) < len.toInt then (if row i = -1000000005 then 0 else 1) else 0, σ) := by
  have en : a.toNatClampNeg = i := zTn (zTl ha) rfl
  unfold f_X2_hasNumber
  by_cases c : (i : Int) < len.toInt
  · rw [c_hasPlace1 (by rw [y]; exact f5.1) (by rw [y]; omega), zbd_s, if_neg one_ne, if_pos (zin_mk (by omega) (by omega)), en, z i (by omega), if_pos c]
    by_cases d : row i = -1000000005
    · rw [if_pos d, if_pos d]
    · rw [if_neg d, if_neg d]
  · rw [c_hasPlace0 (by rw [y]; exact f5.1) (by rw [y]; omega), zbd_s, if_pos rfl, if_neg c]
theorem sPo_st {g row : Nat → Int32} {len : Int} {i : Nat} (hi : i ≤ 9) : STx g (sPo g row len i).1 := ⟨sPo_c i (by omega), fun j hj => sPo_c i (by omega)⟩
theorem sPo_y {g row : Nat → Int32} {len : Int} {i : Nat} (c : (i : Int) < len ∧ ¬ row i = -1000000005) : sPo g row len (i + 1) = (upd (sPo g row len i).1 (11 + 4 * i + 2) (sHeld (row i) 0 999), (sPo g row len i).2 + if sHeld (row i) 0 999 = g (11 + 4 * i + 2) then 0 else 1) := if_pos c
theorem sPo_n {g row : Nat → Int32} {len : Int} {i : Nat} (c : ¬ ((i : Int) < len ∧ ¬ row i = -1000000005)) : sPo g row len (i + 1) = sPo g row len i := if_neg c
theorem c_pour {a len : Int32} {n N : Nat} {g row : Nat → Int32} {σ : zg_S} (y : σ (53 + 2 * n) 1 = len) (z : ∀ i, i < 24 → σ (53 + 2 * n + 1) i = row i) (f5 : 0 ≤ len.toInt ∧ len.toInt ≤ 24) (hn : n < 4) (hE : EQB σ 153 g) (hN : (g 0).toInt = N) (h9 : N ≤ 9) : zk (L_X6_pour_32 a zfu (53 + 2 * n) 0 0 σ) (fun r s => r = (sPo g row len.toInt N).2 ∧ EQB s 153 (sPo g row len.toInt N).1) := by
  have e0 := zt_0
  have e1 := zt_1
  unfold L_X6_pour_32
  refine zl_NII (fun (q : Nat) (x3 x : Int32) (s : zg_S) => q = 53 + 2 * n ∧ ∃ i : Nat, x.toInt = i ∧ i ≤ N ∧ x3 = (sPo g row len.toInt i).2 ∧ EQB s 153 (sPo g row len.toInt i).1 ∧ ∀ p k, p < 153 → s p k = σ p k) (fun (_ : Nat) (_ x : Int32) (_ : zg_S) => (24 - x.toInt).toNat) ?_ zfu _ _ _ _ ⟨rfl, 0, e0, by omega, rfl, hE, fun _ _ _ => rfl⟩ (by unfold zfu; omega)
  intro rec q x3 x s hI ih
  obtain ⟨rfl, i, hi, hiN, rfl, hEs, hf⟩ := hI
  have ni := ztn (i := x) (by omega)
  have e3 : s 153 3 = g 0 := (hEs.f 0 (by decide)).trans (sPo_c i (by omega))
  unfold B_X6_pour_32
  rw [e3]
  refine zk_ite (fun hle => ?_) (fun hlt => ?_)
  · have := zle hle
    have : i = N := by omega
    subst this
    exact zk_some ⟨rfl, hEs⟩
  · have gl := znle hlt
    have ex := zTe (zTadd (zTs x) (zTl zt_1) (by omega) (by omega))
    have nx7 : ∀ (u : zg_S) (w : Int32), w = (sPo g row len.toInt (i + 1)).2 → EQB u 153 (sPo g row len.toInt (i + 1)).1 → (∀ p k, p < 153 → u p k = σ p k) → zk (B_X6_pour_110 a rec (53 + 2 * n) w x u) (fun r s => r = (sPo g row len.toInt N).2 ∧ EQB s 153 (sPo g row len.toInt N).1) := fun u w hw hEu hfu => by
      unfold B_X6_pour_110
      exact ih (53 + 2 * n) w (x + 1) u ⟨rfl, i + 1, by rw [ex, hi]; rfl, by omega, hw, hEu, hfu⟩ (by show (24 - (x + 1).toInt).toNat < (24 - x.toInt).toNat; rw [ex]; omega)
    refine zk_e (c_num (len := len) (row := row) ((hf _ _ (by omega)).trans y) (fun j hj => (hf _ _ (by omega)).trans (z j hj)) f5 hi) ?_
    by_cases c : (i : Int) < len.toInt ∧ ¬ row i = -1000000005
    · have sy := sPo_y (g := g) c
      rw [if_pos c.1, if_neg c.2]
      refine zk_ite (fun z => absurd z one_ne) (fun _ => zk_in (zin_mk (by omega) (by omega)) ?_)
      rw [show x.toNatClampNeg = i by omega, hf _ _ (by omega), z i (by omega)]
      refine zk_e (c_held _ _ _ _) (zk_in (zin_mk (by omega) (by omega)) ?_)
      have eg : s (154 + 2 + i) 2 = g (11 + 4 * i + 2) := (hEs.2 i 2 (by rw [sPo_c i (by omega)]; omega) (by decide)).trans (sPo_c i (by omega))
      rw [eg]
      have go : ∀ w : Int32, w = (if sHeld (row i) 0 999 = g (11 + 4 * i + 2) then 0 else 1) → zk (B_X6_pour_93 a rec (53 + 2 * n) x (sHeld (row i) 0 999) w (sPo g row len.toInt i).2 s) (fun r s => r = (sPo g row len.toInt N).2 ∧ EQB s 153 (sPo g row len.toInt N).1) := fun w hw => by
        unfold B_X6_pour_93
        refine zk_in (zin_mk (by omega) (by omega)) (zk_let (fun s2 q2 => ?_))
        rw [show x.toNatClampNeg = i by omega] at q2
        refine nx7 s2 _ (by rw [sy, hw]) ?_ (fun p k hp => by rw [q2]; exact (congrFun (zg_row_ne (by omega)) k).trans (hf p k hp))
        rw [sy, q2]
        exact hEs.upS i 2 (by decide)
      exact zk_ite (fun hv => go 0 (by rw [if_pos hv])) (fun hv => go 1 (by rw [if_neg hv]))
    · have sn := sPo_n (g := g) c
      have hz : (if (i : Int) < len.toInt then (if row i = -1000000005 then (0 : Int32) else 1) else 0) = 0 := by
        by_cases c1 : (i : Int) < len.toInt
        · rw [if_pos c1, if_pos (Classical.byContradiction (fun d => c ⟨c1, d⟩))]
        · rw [if_neg c1]
      rw [hz]
      exact zk_ite (fun _ => nx7 s _ (by rw [sn]) (by rw [sn]; exact hEs) hf) (fun z => absurd rfl z)
theorem r_pour {a len : Int32} {n N : Nat} {g row : Nat → Int32} {τ : zg_S} (y : τ 5 n = len) (z : ∀ i, i < 24 → τ 6 (24 * n + i) = row i) (f5 : 0 ≤ len.toInt ∧ len.toInt ≤ 24) (hn : n < 4) (ha : a.toInt = n) (hE : τ 1 = g) (hN : (g 0).toInt = N) (h9 : N ≤ 9) : zk (L_X7_pour_27 a zfu 0 0 τ) (fun r s => r = (sPo g row len.toInt N).2 ∧ s 1 = (sPo g row len.toInt N).1) := by
  have e0 := zt_0
  have e1 := zt_1
  have e24 := zt_24
  have e999 := zt_999
  have zi : zin a 4 = true := zin_mk (by omega) (by omega)
  have en : a.toNatClampNeg = n := zTn (zTl ha) rfl
  unfold L_X7_pour_27
  refine zl_II (fun (x3 x : Int32) (s : zg_S) => ∃ i : Nat, x.toInt = i ∧ i ≤ N ∧ x3 = (sPo g row len.toInt i).2 ∧ s 1 = (sPo g row len.toInt i).1 ∧ ∀ p, p ≠ 1 → s p = τ p) (fun (_ x : Int32) (_ : zg_S) => (24 - x.toInt).toNat) ?_ zfu _ _ _ ⟨0, e0, by omega, rfl, hE, fun _ _ => rfl⟩ (by unfold zfu; omega)
  intro rec x3 x s hI ih
  obtain ⟨i, hi, hiN, rfl, hEs, hf⟩ := hI
  have ni := ztn (i := x) (by omega)
  unfold B_X7_pour_27
  refine zk_in zi ?_
  rw [en, hf 5 (by decide), hf 6 (by decide), y, hEs]
  refine zk_ite (fun hle => ?_) (fun hlt => ?_)
  · have := zle hle
    have := sPo_e (g := g) (row := row) (len := len.toInt) hiN (by omega)
    rw [this]
    exact zk_some ⟨rfl, hEs⟩
  have gl := znle hlt
  rw [show (sPo g row len.toInt i).1 0 = g 0 from sPo_c i (by omega)]
  refine zk_ite (fun hle => ?_) (fun hlt => ?_)
  · have := zle hle
    have : i = N := by omega
    subst this
    exact zk_some ⟨rfl, hEs⟩
  have gl2 := znle hlt
  have ex := zTe (zTadd (zTs x) (zTl zt_1) (by omega) (by omega))
  have pi := zTadd (zTmul (zTl zt_24) (zTs a) (by omega) (by omega)) (zTs x) (by omega) (by omega)
  have ii := zTn pi (show (24 * a.toInt + x.toInt : Int) = ((24 * n + i : Nat) : Int) by omega)
  refine zk_in (zin_mkT pi (by omega) (by omega)) (zk_let (fun v ev => ?_))
  rw [ii, z i (by omega)] at ev
  subst ev
  have ec := cellN (a := x) (n := i) (j := 2) hi (by omega) 2 zt_2 (by decide)
  have eg : (sPo g row len.toInt i).1 (11 + 4 * i + 2) = g (11 + 4 * i + 2) := sPo_c i (by omega)
  have nx7 : ∀ (u : zg_S) (w w' : Int32), w' + w = (sPo g row len.toInt (i + 1)).2 → u 1 = (sPo g row len.toInt (i + 1)).1 → (∀ p, p ≠ 1 → u p = τ p) → zk (B_X7_pour_118 a rec x w w' u) (fun r s => r = (sPo g row len.toInt N).2 ∧ s 1 = (sPo g row len.toInt N).1) := fun u w w' hw hEu hfu => by
    unfold B_X7_pour_118
    exact ih (w' + w) (x + 1) u ⟨i + 1, by rw [ex, hi]; rfl, by omega, hw, hEu, hfu⟩ (by show (24 - (x + 1).toInt).toNat < (24 - x.toInt).toNat; rw [ex]; omega)
  refine zk_ite (fun d => ?_) (fun d => ?_)
  · have sn := sPo_n (g := g) (row := row) (len := len.toInt) (i := i) (fun c => c.2 d)
    refine zk_in (zin_mk (by omega) (by omega)) ?_
    rw [show ((11 + (4 * x)) + 2).toNatClampNeg = 11 + 4 * i + 2 from zTn (zTl ec) rfl, eg]
    unfold B_X7_pour_91
    refine zk_e (r_becomes ec (by omega)) ?_
    rw [hEs, eg]
    refine zk_ite (fun _ => ?_) (fun z => absurd rfl z)
    refine nx7 _ 0 _ (by rw [sn]; exact Int32.add_zero _) ?_ (fun p hp => (zg_row_ne hp).trans (hf p hp))
    rw [sn, ← hEs]
    funext k
    by_cases e : k = 11 + 4 * i + 2
    · subst e
      rw [hEs, eg]
      exact zgot
    · exact zkeepn e
  · have sy := sPo_y (g := g) (row := row) (len := len.toInt) (i := i) ⟨by omega, d⟩
    refine zk_e (r_within _ _ _ (by omega)) ?_
    unfold B_X7_pour_91
    refine zk_e (r_becomes ec (by omega)) ?_
    rw [hEs, eg]
    have un : ∀ v : Int32, zg_up s 1 (11 + 4 * i + 2) v 1 = upd (sPo g row len.toInt i).1 (11 + 4 * i + 2) v := fun v => by
      funext k
      by_cases e : k = 11 + 4 * i + 2
      · subst e
        rw [pk_us]
        exact zgot
      · rw [pk_un e, ← hEs]
        exact zkeepn e
    refine zk_ite (fun hv => ?_) (fun hv => ?_)
    · exact nx7 _ 0 _ (by rw [sy, if_pos hv]) (by rw [sy]; exact un _) (fun p hp => (zg_row_ne hp).trans (hf p hp))
    · exact nx7 _ 1 _ (by rw [sy, if_neg hv]) (by rw [sy]; exact un _) (fun p hp => (zg_row_ne hp).trans (hf p hp))
theorem gC_e {g h : Nat → Int32} (c : gC g) (e : ∀ i, i < 6 → h i = g i) : gC h := by
  unfold gC at c ⊢
  rw [e 2 (by decide), e 3 (by decide), e 4 (by decide), e 5 (by decide)]
  exact c
theorem v_pour {σ τ : zg_S} (h : RR σ τ) (hM : IMc τ) (a : Int32) : z2 (f_X6_pour a σ) (f_X7_pour a τ) SM := by
  have e0 := zt_0
  obtain ⟨hE, hT, o, hC, h99⟩ := id h.1
  have n0 := o.1.1
  suffices z2 (f_X6_pour a σ) (f_X7_pour a τ) (fun r s r' t => r = r' ∧ EQB s 153 (t 1) ∧ STx (τ 1) (t 1) ∧ gOK (t 1) ∧ gC (t 1) ∧ t 1 2 = τ 1 2) by
    refine z2_mono (z2_w this (w_X6_pour a σ) (w_X7_pour a τ)) (fun r s r' t hq => ?_)
    obtain ⟨⟨q1, q2, q3, q4, q5, q6⟩, hw, hw'⟩ := hq
    refine ⟨q1, h.now (fun p k hp => hw p k (fun z => ?_)) (fun p k hp => hw' p k (fun z => ?_)) ?_ ⟨q2, ?_, q4, q5, by rw [q6]; exact h99⟩⟩
    · unfold W_X6_pour at z
      unfold sideC at hp
      omega
    · unfold W_X7_pour at z
      unfold sideM at hp
      omega
    · rw [q3.1]
      exact Int.le_refl _
    · exact (hT.wr o.2.2.1.2 (fun k => hw _ k (fun z => by unfold W_X6_pour at z; omega)) (fun q k _ hq _ => hw _ k (fun z => by unfold W_X6_pour at z; omega))).st q3
  have rf : ∀ r : Int32, r = r ∧ EQB σ 153 (τ 1) ∧ STx (τ 1) (τ 1) ∧ gOK (τ 1) ∧ gC (τ 1) ∧ τ 1 2 = τ 1 2 := fun r => ⟨rfl, hE, STx.rf, o, hC, rfl⟩
  unfold f_X6_pour f_X7_pour
  refine z2_sheet (z2_pL rfl (z2_pR rfl (z2_some (rf _)))) (fun n hn h4 en zi => z2_nL one_ne (z2_nR one_ne (z2_pL zi (z2_pR zi ?_))))
  rw [en]
  have f5 : 0 ≤ (τ 5 n).toInt ∧ (τ 5 n).toInt ≤ 24 := hM 5 n
  rcases c_missing h h4 with ⟨m1, q1⟩ | ⟨m1, m2, q1⟩
  · refine z2_eL q1 (z2_nL one_ne (z2_nR (fun z => ?_) (z2_some (rf _))))
    have := zle z
    have := zlt m1
    omega
  refine z2_eL q1 (z2_pL rfl (z2_pR m2 ?_))
  obtain ⟨_, y, z, _⟩ := h.2.2.2.2.1 n h4
  have hN : ((τ 1) 0).toInt = (((τ 1) 0).toInt.toNat : Nat) := by omega
  refine z2_kk (c_pour (row := fun i => τ 6 (24 * n + i)) y z f5 h4 hE hN (by omega)) (r_pour (row := fun i => τ 6 (24 * n + i)) rfl (fun _ _ => rfl) f5 h4 hn rfl hN (by omega)) (fun r s r' t q q' => ?_)
  rw [q'.2]
  exact ⟨q.1.trans q'.1.symm, q.2, sPo_st (by omega), sPo_ok o _ (by omega), gC_e hC (fun i hi => sPo_c _ (by omega)), sPo_c _ (by omega)⟩
end
section
/-! mark, count -/
theorem sh16 (a : Int32) : (Int32.toInt16 a).toInt32 = ((a <<< (16 &&& 31)) >>> (16 &&& 31)) := by
  refine Int32.toBitVec_inj.mp ?_
  rw [Int32.toBitVec_shiftRight, Int32.toBitVec_shiftLeft, show ((16 : Int32) &&& 31).toBitVec.smod 32 = 16#32 by decide]
  refine BitVec.eq_of_getLsbD_eq (fun i hi => ?_)
  show ((a.toBitVec.signExtend 16).signExtend 32).getLsbD i = ((a.toBitVec <<< 16).sshiftRight 16).getLsbD i
  rw [BitVec.getLsbD_signExtend, BitVec.getLsbD_sshiftRight, BitVec.msb_eq_getLsbD_last, BitVec.msb_eq_getLsbD_last, BitVec.getLsbD_signExtend, BitVec.getLsbD_signExtend, BitVec.getLsbD_shiftLeft, BitVec.getLsbD_shiftLeft]
  by_cases c : i < 16
  · rw [if_pos c, if_pos (by omega), if_pos (by omega), decide_eq_true hi, decide_eq_true c, decide_eq_false (by omega : ¬ 32 ≤ i), decide_eq_true (by omega : 16 + i < 32), decide_eq_false (by omega : ¬ 16 + i < 16), show 16 + i - 16 = i by omega]
    rfl
  · rw [if_neg c, if_pos (show 16 - 1 < 32 by decide), if_neg (show ¬ 16 + i < 32 by omega), decide_eq_true hi, decide_eq_false (by omega : ¬ 32 ≤ i)]
    rfl
def pcB : Nat → Int32 → Int32 → Option Int32
  | 0, _, _ => none
  | k + 1, x, y => if y = 0 then some x else pcB k (x + 1) (y &&& (y - 1))
theorem pcB_L (σ : zg_S) (r : Int32) : ∀ (k m : Nat) (x y : Int32), pcB k x y = some r → L_X7_manyShaded_7 (k + m) x y σ = some (r, σ) := by
  intro k
  induction k with
  | zero => intro m x y h; exact absurd h (by intro z; cases z)
  | succ k ih =>
    intro m x y h
    rw [show k + 1 + m = (k + m) + 1 by omega]
    show B_X7_manyShaded_7 (L_X7_manyShaded_7 (k + m)) x y σ = some (r, σ)
    unfold B_X7_manyShaded_7
    have h : (if y = 0 then some x else pcB k (x + 1) (y &&& (y - 1))) = some r := h
    by_cases c : y = 0
    · rw [if_pos c] at h ⊢
      rw [Option.some.inj h]
    · rw [if_neg c] at h ⊢
      exact ih m _ _ h
def bcJ (a0 : Int32) : Int32 :=
  let y1 := a0 - (((Int32.toUInt32 a0 >>> (Int32.toUInt32 1 &&& Int32.toUInt32 31)).toInt32) &&& 1431655765)
  let y6 := (y1 &&& 858993459) + (((Int32.toUInt32 y1 >>> (Int32.toUInt32 2 &&& Int32.toUInt32 31)).toInt32) &&& 858993459)
  let y11 := (y6 + ((Int32.toUInt32 y6 >>> (Int32.toUInt32 4 &&& Int32.toUInt32 31)).toInt32)) &&& 252645135
  let y16 := y11 + ((Int32.toUInt32 y11 >>> (Int32.toUInt32 8 &&& Int32.toUInt32 31)).toInt32)
  let y21 := y16 + ((Int32.toUInt32 y16 >>> (Int32.toUInt32 16 &&& Int32.toUInt32 31)).toInt32)
  y21 &&& 63
theorem bcJ_f (a : Int32) (σ : zg_S) : f_J6_bitCount_0f7a4 a σ = some (bcJ a, σ) := rfl
theorem pcB_t : ∀ x : Fin 512, pcB 10 0 (Int32.ofBitVec (BitVec.ofNat 32 x.val)) = some (bcJ (Int32.ofBitVec (BitVec.ofNat 32 x.val))) := by decide +kernel
theorem pcB_r (a : Int32) (h : a.toBitVec.toNat < 512) : pcB 10 0 a = some (bcJ a) := by
  have e : Int32.ofBitVec (BitVec.ofNat 32 a.toBitVec.toNat) = a := by
    rw [BitVec.ofNat_toNat, BitVec.setWidth_eq]
    rfl
  have := pcB_t ⟨a.toBitVec.toNat, h⟩
  rw [e] at this
  exact this
theorem v_count {σ τ : zg_S} (h : RR σ τ) (hM : IMc τ) (a : Int32) : z2 (f_X6_count a σ) (f_X7_count a τ) SM := by
  obtain ⟨hE, hT, o, hC, h99⟩ := id h.1
  unfold f_X6_count f_X7_count f_X7_manyShaded
  refine z2_iL (fun c => z2_pR c (z2_some ⟨h.f 0 (by decide), h⟩)) (fun c => z2_nR c ?_)
  refine z2_iL (fun c => z2_pR c (z2_some ⟨h.f 2 (by decide), h⟩)) (fun c => z2_nR c ?_)
  refine z2_iL (fun c => z2_pR c ?_) (fun c => z2_nR c ?_)
  · obtain ⟨r, s, e1, rfl, e2⟩ := c_shadedSet hE o
    obtain ⟨r', t, e3, rfl, e4⟩ := r_shadedSet (τ := τ) rfl o
    obtain ⟨r2, t2, e5, _, e6⟩ := m_shadedSet τ hM
    have e7 : r' = r2 := by
      rw [e3] at e5
      injection e5 with e5
      exact (Prod.mk.inj e5).1
    subst e7
    have e8 : r = r' := e2.trans e4.symm
    subst e8
    rw [e1, zbd_s, bcJ_f, zbd_s, e3, zbd_s]
    rw [show zfu = 10 + 99990 from rfl, pcB_L τ _ 10 99990 0 r (pcB_r r e6), zbd_s]
    exact z2_some ⟨rfl, h⟩
  refine z2_iL (fun c => z2_pR c (z2_some ⟨h.f 1 (by decide), h⟩)) (fun c => z2_nR c ?_)
  refine z2_iL (fun c => z2_pR c (z2_some ⟨h.2.2.2.1.1, h⟩)) (fun c => z2_nR c ?_)
  refine z2_iL (fun c => z2_pR c (z2_some ⟨h.2.2.1.1, h⟩)) (fun c => z2_nR c ?_)
  refine z2_iL (fun c => z2_pR c (z2_some ⟨h.f 6 (by decide), h⟩)) (fun c => z2_nR c ?_)
  exact z2_some ⟨rfl, h⟩
theorem up_ne {ρ : zg_S} {p q i : Nat} {v : Int32} (h : q ≠ p) : zg_up ρ p i v q = ρ q := zg_row_ne h
theorem RR.place {σ τ : zg_S} {n i : Nat} {v : Int32} (h : RR σ τ) (hn : n < 4) (hi : i < 24) : RR (zg_up σ (53 + 2 * n + 1) i v) (zg_up τ 6 (24 * n + i) v) := by
  refine h.r5 (fun p k hp => congrFun (zg_row_ne (by omega)) k) (fun p k hp => congrFun (zg_row_ne (by omega)) k) (fun k hk => ?_)
  obtain ⟨x, y, z, w⟩ := h.2.2.2.2.1 k hk
  refine ⟨?_, ?_, fun j hj => ?_, ?_⟩
  · rw [up_ne (show 53 + 2 * k ≠ 53 + 2 * n + 1 by omega), up_ne (by decide)]; exact x
  · rw [up_ne (show 53 + 2 * k ≠ 53 + 2 * n + 1 by omega), up_ne (by decide)]; exact y
  · by_cases e : k = n ∧ j = i
    · obtain ⟨rfl, rfl⟩ := e
      exact zgot.trans zgot.symm
    · rw [show zg_up τ 6 (24 * n + i) v 6 (24 * k + j) = τ 6 (24 * k + j) from zkeepn (by omega)]
      by_cases e2 : k = n
      · subst e2
        exact (zkeepn (by omega)).trans (z j hj)
      · rw [up_ne (show 53 + 2 * k + 1 ≠ 53 + 2 * n + 1 by omega)]; exact z j hj
  · rw [up_ne (by decide)]; exact w
theorem v_mark {σ τ : zg_S} (h : RR σ τ) (hM : IMc τ) (a b c : Int32) : z2 (f_X6_mark a b c σ) (f_X7_mark a b c τ) SM := by
  have e0 := zt_0
  have e24 := zt_24
  unfold f_X6_mark f_X7_mark
  refine z2_sheet (z2_pL rfl (z2_pR rfl (z2_some (SM.rf h)))) (fun n hn h4 en zi => z2_nL one_ne (z2_nR one_ne (z2_pL zi (z2_pR zi ?_))))
  rw [en]
  have f5 : 0 ≤ (τ 5 n).toInt ∧ (τ 5 n).toInt ≤ 24 := hM 5 n
  rcases c_missing h h4 with ⟨m1, q1⟩ | ⟨m1, m2, q1⟩
  · refine z2_eL q1 (z2_nL one_ne (z2_nR (fun z => ?_) (z2_some (SM.rf h))))
    have := zle z
    have := zlt m1
    omega
  refine z2_eL q1 (z2_pL rfl (z2_pR m2 ?_))
  obtain ⟨x, y, z, w⟩ := h.2.2.2.2.1 n h4
  by_cases d : 0 ≤ b.toInt ∧ b.toInt < (τ 5 n).toInt
  · have nb := ztn d.1
    refine z2_eL (c_hasPlace1 (by rw [y]; exact f5.1) (by rw [y]; exact d)) (z2_nL one_ne ?_)
    refine z2_eR (r_place1 f5.1 d) (z2_nR one_ne ?_)
    rw [x]
    have pi := zTadd (zTmul (zTl zt_24) (zTs a) (by omega) (by omega)) (zTs b) (by omega) (by omega)
    have ii := zTn pi (show (24 * a.toInt + b.toInt : Int) = ((24 * n + b.toNatClampNeg : Nat) : Int) by omega)
    have zb : zin b 24 = true := zin_mk d.1 (by omega)
    have z6 := zin_mkT (n := 96) pi (by omega) (by omega)
    unfold B_X7_mark_63 B_X7_mark_96
    refine z2_iL (fun k0 => z2_pR k0 ?_) (fun k0 => z2_nR k0 ?_)
    · refine z2_iL (fun k1 => z2_pR k1 (z2_some (SM.rf h))) (fun k1 => z2_nR k1 ?_)
      refine z2_pL zb (z2_lL (fun s qs => ?_))
      refine z2_pR zi ?_
      rw [en]
      refine z2_nR (by rw [k0]; decide) (z2_pR zi (z2_pR k0 (z2_lR (fun v ev => z2_pR z6 (z2_lR (fun t qt => z2_some ⟨rfl, ?_⟩))))))
      rw [qs, qt, ev, ii, sh16]
      exact h.place h4 (by omega)
    · have k2 : τ 4 n = 1 := by
        rcases w with w | w | w
        · exact absurd m2 (by rw [w]; decide)
        · exact absurd w k0
        · exact w
      have fin : z2 (B_X6_mark_92 a b c (53 + 2 * n) σ) (if zin a 4 = true then (if (τ 4 a.toNatClampNeg) = 0 then zlet ((c <<< (16 &&& 31)) >>> (16 &&& 31)) (fun (y16 : Int32) => (if zin ((24 * a) + b) 96 = true then zlet (zg_up τ 6 (Int32.toNatClampNeg ((24 * a) + b)) y16) (fun (σ22 : zg_S) => some (1, σ22)) else none)) else (if zin ((24 * a) + b) 96 = true then zlet (zg_up τ 6 (Int32.toNatClampNeg ((24 * a) + b)) c) (fun (σ9 : zg_S) => some (1, σ9)) else none)) else none) SM := by
        unfold B_X6_mark_92
        refine z2_pL zb (z2_lL (fun s qs => z2_pR zi ?_))
        rw [en]
        refine z2_nR k0 (z2_pR z6 (z2_lR (fun t qt => z2_some ⟨rfl, ?_⟩)))
        rw [qs, qt, ii]
        exact h.place h4 (by omega)
      refine z2_pR zi ?_
      rw [en]
      rw [en] at fin
      refine z2_pR k2 ?_
      refine z2_iL (fun k1 => z2_pR k1 fin) (fun k1 => z2_nR k1 ?_)
      exact z2_within (fun _ => z2_pL rfl (z2_pR rfl (z2_some (SM.rf h)))) (fun h1 h2 => z2_nL one_ne (z2_nR one_ne fin))
  · refine z2_eL (c_hasPlace0 (by rw [y]; exact f5.1) (by rw [y]; exact d)) (z2_pL rfl ?_)
    exact z2_eR (r_place0 f5.1 d) (z2_pR rfl (z2_some (SM.rf h)))
end
section
/-! feed -/
def bS (k : Nat) : Int32 := ([24, 16, 8, 0] : List Int32).getD k 0
def bt (a : Int32) (k : Nat) : Int32 := (a >>> (bS k &&& 31)) &&& 255
theorem byt {a S : Int32} {s : Nat} (hs : s ≤ 24) (e1 : ((Int32.toUInt32 S &&& Int32.toUInt32 31) % 32 : UInt32).toBitVec.toNat = s) (e2 : ((S &&& 31).toBitVec.smod 32).toNat = s) : ((Int32.toUInt32 a >>> (Int32.toUInt32 S &&& Int32.toUInt32 31)).toInt32) &&& 255 = (a >>> (S &&& 31)) &&& 255 := by
  refine Int32.toBitVec_inj.mp ?_
  rw [Int32.toBitVec_and, Int32.toBitVec_and]
  refine BitVec.eq_of_getLsbD_eq (fun i hi => ?_)
  rw [BitVec.getLsbD_and, BitVec.getLsbD_and]
  by_cases c : i < 8
  · have h1 : ((Int32.toUInt32 a >>> (Int32.toUInt32 S &&& Int32.toUInt32 31)).toInt32).toBitVec.getLsbD i = (a.toBitVec >>> ((Int32.toUInt32 S &&& Int32.toUInt32 31) % 32 : UInt32).toBitVec.toNat).getLsbD i := rfl
    have h2 : (a >>> (S &&& 31)).toBitVec.getLsbD i = (a.toBitVec.sshiftRight ((S &&& 31).toBitVec.smod 32).toNat).getLsbD i := rfl
    rw [h1, h2, e1, e2, BitVec.getLsbD_ushiftRight, BitVec.getLsbD_sshiftRight, if_pos (by omega), decide_eq_false (by omega : ¬ 32 ≤ i)]
    rfl
  · have : ∀ i, i < 32 → ¬ i < 8 → (255 : Int32).toBitVec.getLsbD i = false := by decide
    rw [this i hi c, Bool.and_false, Bool.and_false]
theorem byt_k {a x : Int32} {k : Nat} (hk : k < 4) (hx : x.toInt = 24 - 8 * (k : Int)) : ((Int32.toUInt32 a >>> (Int32.toUInt32 x &&& Int32.toUInt32 31)).toInt32) &&& 255 = bt a k := by
  rcases (show k = 0 ∨ k = 1 ∨ k = 2 ∨ k = 3 by omega) with rfl | rfl | rfl | rfl
  · have : x = 24 := Int32.toInt_inj.mp (by rw [hx]; decide)
    subst this
    exact byt (s := 24) (by decide) (by decide) (by decide)
  · have : x = 16 := Int32.toInt_inj.mp (by rw [hx]; decide)
    subst this
    exact byt (s := 16) (by decide) (by decide) (by decide)
  · have : x = 8 := Int32.toInt_inj.mp (by rw [hx]; decide)
    subst this
    exact byt (s := 8) (by decide) (by decide) (by decide)
  · have : x = 0 := Int32.toInt_inj.mp (by rw [hx]; decide)
    subst this
    exact byt (s := 0) (by decide) (by decide) (by decide)
theorem sft {x : Int32} {k : Nat} (h : x.toInt = k) (hk : k < 12) : 24 - (8 * (x - x / 4 * 4)) = bS (k % 4) := by
  have h1 : ∀ k : Fin 12, (Int32.ofNat k.val).toInt = k.val := by decide +kernel
  have h2 : ∀ k : Fin 12, 24 - (8 * ((Int32.ofNat k.val) - (Int32.ofNat k.val) / 4 * 4)) = bS (k.val % 4) := by decide +kernel
  have : x = Int32.ofNat k := Int32.toInt_inj.mp (by rw [h]; exact (h1 ⟨k, hk⟩).symm)
  rw [this]
  exact h2 ⟨k, hk⟩
theorem c_bytes (a : Int32) {m : Nat} {σ : zg_S} (h : (σ 0 10).toInt = m) (hm : m + 4 ≤ 96) : zk (f_X6_feedBytes a σ) (fun _ s => (s 0 10).toInt = ((m + 4 : Nat) : Int) ∧ (∀ j, j < m → s 6 j = σ 6 j) ∧ ∀ k, k < 4 → s 6 (m + k) = bt a k) := by
  have e0 := zt_0
  have e1 := zt_1
  have e96 := zt_96
  have e24 := zt_24
  have em8 : ((-8 : Int32)).toInt = -8 := by decide
  unfold f_X6_feedBytes L_X6_feedBytes_3
  refine zl_I (fun (x : Int32) (s : zg_S) => ∃ i : Nat, x.toInt = 24 - 8 * (i : Int) ∧ i ≤ 4 ∧ (s 0 10).toInt = ((m + i : Nat) : Int) ∧ (∀ j, j < m → s 6 j = σ 6 j) ∧ ∀ k, k < i → s 6 (m + k) = bt a k) (fun (x : Int32) (_ : zg_S) => (x.toInt + 8).toNat) ?_ zfu _ _ ⟨0, by omega, by omega, h, fun _ _ => rfl, fun k hk => by omega⟩ (by unfold zfu; omega)
  intro rec x s hI ih
  obtain ⟨i, hx, hi, hc, hl, hb⟩ := hI
  unfold B_X6_feedBytes_3
  refine zk_ite (fun hle => ?_) (fun hlt => ?_)
  · have := zlt hle
    have : i = 4 := by omega
    subst this
    exact zk_some ⟨hc, hl, hb⟩
  have gl := znlt hlt
  refine zk_ite (fun hle => ?_) (fun hlt2 => ?_)
  · have := zle hle
    omega
  refine zk_let (fun v ev => ?_)
  rw [byt_k (k := i) (by omega) hx] at ev
  have nc := ztn (i := s 0 10) (by omega)
  refine zk_in (zin_mk (by omega) (by omega)) (zk_let (fun s1 q1 => zk_let (fun s2 q2 => ?_)))
  rw [show (s 0 10).toNatClampNeg = m + i by omega] at q1
  have ex := zTe (zTadd (zTs x) (zTl em8) (by omega) (by omega))
  have c1 : s1 0 10 = s 0 10 := by rw [q1]; exact congrFun (zg_row_ne (by decide)) _
  have ec := zTe (zTadd (zTs (s1 0 10)) (zTl zt_1) (by rw [c1]; omega) (by rw [c1]; omega))
  have s6 : s2 6 = s1 6 := by rw [q2]; exact zg_row_ne (by decide)
  refine ih (x + (-8)) s2 ⟨i + 1, by rw [ex]; omega, by omega, ?_, fun j hj => ?_, fun k hk => ?_⟩ (by show ((x + (-8)).toInt + 8).toNat < (x.toInt + 8).toNat; rw [ex]; omega)
  · rw [q2, show zg_up s1 0 10 (s1 0 10 + 1) 0 10 = s1 0 10 + 1 from zgot, ec, c1]
    omega
  · rw [s6, q1]
    exact (zkeepn (by omega)).trans (hl j hj)
  · rw [s6, q1]
    by_cases e : k = i
    · subst e
      exact zgot.trans ev
    · exact (zkeepn (by omega)).trans (hb k (by omega))
def bA (a b c : Int32) (k : Nat) : Int32 := if k < 4 then a else if k < 8 then b else c
theorem r_feed (a b c : Int32) {m : Nat} {τ : zg_S} (h : (τ 0 14).toInt = m) (hm : m + 12 ≤ 96) : zk (L_X7_feed_18 a b c zfu 0 τ) (fun r s => r = s 0 14 ∧ (s 0 14).toInt = ((m + 12 : Nat) : Int) ∧ (∀ j, j < m → s 13 j = τ 13 j) ∧ ∀ k, k < 12 → s 13 (m + k) = bt (bA a b c k) (k % 4)) := by
  have e0 := zt_0
  have e1 := zt_1
  have e4 := zt_4
  have e8 := zt_8
  have e12 := zt_12
  unfold L_X7_feed_18
  refine zl_I (fun (x : Int32) (s : zg_S) => ∃ i : Nat, x.toInt = i ∧ i ≤ 12 ∧ (s 0 14).toInt = ((m + i : Nat) : Int) ∧ (∀ j, j < m → s 13 j = τ 13 j) ∧ ∀ k, k < i → s 13 (m + k) = bt (bA a b c k) (k % 4)) (fun (x : Int32) (_ : zg_S) => (12 - x.toInt).toNat) ?_ zfu _ _ ⟨0, by omega, by omega, h, fun _ _ => rfl, fun k hk => by omega⟩ (by unfold zfu; omega)
  intro rec x s hI ih
  obtain ⟨i, hx, hi, hc, hl, hb⟩ := hI
  unfold B_X7_feed_18
  refine zk_ite (fun hle => ?_) (fun hlt => ?_)
  · have := zle hle
    have : i = 12 := by omega
    subst this
    exact zk_some ⟨rfl, hc, hl, hb⟩
  have gl := znle hlt
  have nc := ztn (i := s 0 14) (by omega)
  have go : ∀ y : Int32, y = bA a b c i → zk (B_X7_feed_47 a b c rec x y s) (fun r s => r = s 0 14 ∧ (s 0 14).toInt = ((m + 12 : Nat) : Int) ∧ (∀ j, j < m → s 13 j = τ 13 j) ∧ ∀ k, k < 12 → s 13 (m + k) = bt (bA a b c k) (k % 4)) := fun y hy => by
    unfold B_X7_feed_47
    refine zk_let (fun v ev => ?_)
    rw [sft hx (by omega)] at ev
    refine zk_in (zin_mk (by omega) (by omega)) (zk_let (fun s1 q1 => zk_let (fun s2 q2 => ?_)))
    rw [show (s 0 14).toNatClampNeg = m + i by omega] at q1
    have ex := zTe (zTadd (zTs x) (zTl zt_1) (by omega) (by omega))
    have c1 : s1 0 14 = s 0 14 := by rw [q1]; exact congrFun (zg_row_ne (by decide)) _
    have ec := zTe (zTadd (zTs (s1 0 14)) (zTl zt_1) (by rw [c1]; omega) (by rw [c1]; omega))
    have s6 : s2 13 = s1 13 := by rw [q2]; exact zg_row_ne (by decide)
    refine ih (x + 1) s2 ⟨i + 1, by rw [ex]; omega, by omega, ?_, fun j hj => ?_, fun k hk => ?_⟩ (by show (12 - (x + 1).toInt).toNat < (12 - x.toInt).toNat; rw [ex]; omega)
    · rw [q2, show zg_up s1 0 14 (s1 0 14 + 1) 0 14 = s1 0 14 + 1 from zgot, ec, c1]
      omega
    · rw [s6, q1]
      exact (zkeepn (by omega)).trans (hl j hj)
    · rw [s6, q1]
      by_cases e : k = i
      · subst e
        refine zgot.trans (ev.trans ?_)
        rw [hy]
        rfl
      · exact (zkeepn (by omega)).trans (hb k (by omega))
  refine zk_ite (fun h4 => ?_) (fun h4 => ?_)
  · have g4 := zle h4
    refine zk_ite (fun h8 => ?_) (fun h8 => ?_)
    · have g8 := zle h8
      exact go _ (by unfold bA; rw [if_neg (by omega), if_neg (by omega)])
    · have g8 := znle h8
      exact go _ (by unfold bA; rw [if_neg (by omega), if_pos (by omega)])
  · have g4 := znle h4
    exact go _ (by unfold bA; rw [if_pos (by omega)])
theorem v_feed {σ τ : zg_S} (h : RR σ τ) (hM : 0 ≤ (τ 0 14).toInt ∧ (τ 0 14).toInt ≤ 96) (a b c : Int32) : z2 (f_X6_feed a b c σ) (f_X7_feed a b c τ) SM := by
  have e0 := zt_0
  have e12 := zt_12
  have e96 := zt_96
  obtain ⟨hc, hl⟩ := h.2.2.1
  have ec := zTe (zTadd (zTs (τ 0 14)) (zTl zt_12) (by omega) (by omega))
  suffices z2 (f_X6_feed a b c σ) (f_X7_feed a b c τ) (fun r s r' t => r = r' ∧ R3 s t) by
    refine z2_mono (z2_w this (w_X6_feed a b c σ) (w_X7_feed a b c τ)) (fun r s r' t hq => ?_)
    obtain ⟨⟨q1, q2⟩, hw, hw'⟩ := hq
    exact ⟨q1, h.r3 (fun p k hp => hw p k (fun z => by unfold W_X6_feed at z; omega)) (fun p k hp => hw' p k (fun z => by unfold W_X7_feed at z; omega)) q2⟩
  unfold f_X6_feed f_X7_feed
  rw [hc]
  refine z2_iL (fun d => z2_pR d ?_) (fun d => z2_nR d (z2_some ⟨rfl, h.2.2.1⟩))
  have gd := zle d
  obtain ⟨m, hm⟩ : ∃ m : Nat, (τ 0 14).toInt = m := ⟨(τ 0 14).toInt.toNat, by omega⟩
  refine z2_cL (c_bytes a (m := m) (by rw [hc]; exact hm) (by omega)) (fun _ s1 p1 => ?_)
  refine z2_cL (c_bytes b p1.1 (by omega)) (fun _ s2 p2 => ?_)
  refine z2_cL (c_bytes c p2.1 (by omega)) (fun _ s3 p3 => ?_)
  obtain ⟨r', t, et, t1, t2, t3, t4⟩ := r_feed a b c hm (by omega)
  have cc : s3 0 10 = t 0 14 := Int32.toInt_inj.mp (by rw [p3.1, t2])
  refine ⟨_, s3, r', t, rfl, et, cc.trans t1.symm, cc, fun i hi => ?_⟩
  rw [t2] at hi
  by_cases c0 : i < m
  · rw [p3.2.1 i (by omega), p2.2.1 i (by omega), p1.2.1 i c0, t3 i c0]
    exact hl i (by omega)
  · obtain ⟨k, rfl⟩ : ∃ k, i = m + k := ⟨i - m, by omega⟩
    rw [t4 k (by omega)]
    unfold bA
    by_cases c4 : k < 4
    · rw [if_pos c4, p3.2.1 _ (by omega), p2.2.1 _ (by omega), p1.2.2 k c4, show k % 4 = k by omega]
    · rw [if_neg c4]
      by_cases c8 : k < 8
      · rw [if_pos c8, p3.2.1 _ (by omega), show m + k = m + 4 + (k - 4) by omega, p2.2.2 (k - 4) (by omega), show k % 4 = k - 4 by omega]
      · rw [if_neg c8, show m + k = m + 4 + 4 + (k - 8) by omega, p3.2.2 (k - 8) (by omega), show k % 4 = k - 8 by omega]
end
section
/-! lay -/
theorem RR.slot {σ s τ t : zg_S} {n : Nat} (h : RR σ τ) (hn : n < 5) (a : ∀ p k, ¬ (61 + 4 * n ≤ p ∧ p ≤ 64 + 4 * n) → s p k = σ p k) (b : ∀ p k, ¬ (7 ≤ p ∧ p ≤ 11) → t p k = τ p k) (c : ∀ p j, 7 ≤ p → p ≤ 10 → j ≠ n → t p j = τ p j) (d : ∀ j i, j ≠ n → i < 24 → t 11 (24 * j + i) = τ 11 (24 * j + i)) (e : R6j s t n) : RR s t := by
  refine h.r6 (fun p k hp => a p k (by omega)) b (fun j hj => ?_)
  by_cases x : j = n
  · subst x
    exact e
  · exact (h.2.2.2.2.2 j hj).k (fun q k h1 h2 => a q k (by omega)) (c 7 j (by decide) (by decide) x) (c 8 j (by decide) (by decide) x) (c 9 j (by decide) (by decide) x) (c 10 j (by decide) (by decide) x) (fun i hi => d j i x hi)
theorem c_sheet1 {a : Int32} {σ : zg_S} (c : 0 ≤ a.toInt ∧ a.toInt ≤ 3) : f_X6_isSheet a σ = some (1, σ) := by
  unfold f_X6_isSheet
  rw [c_within1 σ (by rw [zt_0, zt_3]; exact c)]
  rfl
theorem c_sheet0 {a : Int32} {σ : zg_S} (c : ¬ (0 ≤ a.toInt ∧ a.toInt ≤ 3)) : f_X6_isSheet a σ = some (0, σ) := by
  unfold f_X6_isSheet
  rw [c_within0 σ (by rw [zt_0, zt_3]; exact c)]
  rfl
theorem r_sheet1 {a : Int32} {τ : zg_S} (c : 0 ≤ a.toInt ∧ a.toInt ≤ 3) : f_X7_isSheet a τ = some (1, τ) := by
  unfold f_X7_isSheet
  rw [r_isIn1 τ (by rw [zt_0, zt_3]; exact c)]
  rfl
theorem r_sheet0 {a : Int32} {τ : zg_S} (c : ¬ (0 ≤ a.toInt ∧ a.toInt ≤ 3)) : f_X7_isSheet a τ = some (0, τ) := by
  unfold f_X7_isSheet
  rw [r_isIn0 τ (by rw [zt_0, zt_3]; exact c)]
  rfl
def lyO (τ : zg_S) (b c : Int32) : Prop := b = 0 ∨ b = 3 ∨ (b = 1 ∧ 0 ≤ c.toInt ∧ c.toInt < (τ 1 0).toInt) ∨ (b = 2 ∧ 0 ≤ c.toInt ∧ c.toInt ≤ 3)
theorem r_pre {τ : zg_S} (hN : 0 ≤ (τ 1 0).toInt) (a b c : Int32) : (lyO τ b c ∧ f_X7_lay a b c τ = B_X7_lay_39 a b c 1 τ) ∨ (¬ lyO τ b c ∧ f_X7_lay a b c τ = B_X7_lay_39 a b c 0 τ) := by
  unfold f_X7_lay B_X7_lay_22 B_X7_lay_34 B_X7_lay_38 lyO
  by_cases b0 : b = 0
  · rw [if_pos b0]
    exact Or.inl ⟨Or.inl b0, rfl⟩
  rw [if_neg b0]
  by_cases b3 : b = 3
  · rw [if_pos b3]
    exact Or.inl ⟨Or.inr (Or.inl b3), rfl⟩
  rw [if_neg b3]
  by_cases b1 : b = 1
  · rw [if_pos b1]
    have b2 : ¬ b = 2 := by rw [b1]; decide
    by_cases d : 0 ≤ c.toInt ∧ c.toInt < (τ 1 0).toInt
    · rw [r_isStall1 d, zbd_s, if_neg one_ne]
      exact Or.inl ⟨Or.inr (Or.inr (Or.inl ⟨b1, d⟩)), rfl⟩
    · rw [r_isStall0 hN d, zbd_s, if_pos rfl, if_neg b2]
      refine Or.inr ⟨fun z => ?_, rfl⟩
      rcases z with z | z | z | z
      · exact b0 z
      · exact b3 z
      · exact d z.2
      · exact b2 z.1
  rw [if_neg b1]
  by_cases b2 : b = 2
  · rw [if_pos b2]
    by_cases d : 0 ≤ c.toInt ∧ c.toInt ≤ 3
    · rw [r_sheet1 d, zbd_s, if_neg one_ne]
      exact Or.inl ⟨Or.inr (Or.inr (Or.inr ⟨b2, d⟩)), rfl⟩
    · rw [r_sheet0 d, zbd_s, if_pos rfl]
      refine Or.inr ⟨fun z => ?_, rfl⟩
      rcases z with z | z | z | z
      · exact b0 z
      · exact b3 z
      · exact b1 z.1
      · exact d z.2
  · rw [if_neg b2]
    refine Or.inr ⟨fun z => ?_, rfl⟩
    rcases z with z | z | z | z
    · exact b0 z
    · exact b3 z
    · exact b1 z.1
    · exact b2 z.1
theorem r_lays {a b c y : Int32} {n m : Nat} (hn : a.toInt = n) (h5 : n < 5) (hm : c.toInt = m) (h4 : m < 4) (τ : zg_S) : zk (L_X7_lay_150 a b c zfu y 0 τ) (fun r t => r = y ∧ (∀ p, p ≠ 11 → t p = τ p) ∧ (∀ i, i < 24 → t 11 (24 * n + i) = τ 6 (24 * m + i)) ∧ ∀ j i, j ≠ n → i < 24 → t 11 (24 * j + i) = τ 11 (24 * j + i)) := by
  have e0 := zt_0
  have e1 := zt_1
  have e24 := zt_24
  unfold L_X7_lay_150
  refine zl_II (fun (w x : Int32) (s : zg_S) => w = y ∧ ∃ i : Nat, x.toInt = i ∧ i ≤ 24 ∧ (∀ p, p ≠ 11 → s p = τ p) ∧ (∀ k, k < i → s 11 (24 * n + k) = τ 6 (24 * m + k)) ∧ ∀ j i, j ≠ n → i < 24 → s 11 (24 * j + i) = τ 11 (24 * j + i)) (fun (_ x : Int32) (_ : zg_S) => (24 - x.toInt).toNat) ?_ zfu _ _ _ ⟨rfl, 0, e0, by omega, fun _ _ => rfl, fun k hk => by omega, fun _ _ _ _ => rfl⟩ (by unfold zfu; omega)
  intro rec w x s hI ih
  obtain ⟨rfl, i, hi, hi2, hp, hv, ho⟩ := hI
  unfold B_X7_lay_150
  refine zk_ite (fun hle => ?_) (fun hlt => ?_)
  · have := zle hle
    have : i = 24 := by omega
    subst this
    exact zk_some ⟨rfl, hp, hv, ho⟩
  have gl := znle hlt
  have pi := zTadd (zTmul (zTl zt_24) (zTs c) (by omega) (by omega)) (zTs x) (by omega) (by omega)
  have ii := zTn pi (show (24 * c.toInt + x.toInt : Int) = ((24 * m + i : Nat) : Int) by omega)
  have pj := zTadd (zTmul (zTl zt_24) (zTs a) (by omega) (by omega)) (zTs x) (by omega) (by omega)
  have ij := zTn pj (show (24 * a.toInt + x.toInt : Int) = ((24 * n + i : Nat) : Int) by omega)
  refine zk_in (zin_mkT pi (by omega) (by omega)) (zk_let (fun v ev => zk_in (zin_mkT pj (by omega) (by omega)) (zk_let (fun s2 q2 => ?_))))
  rw [ii, hp 6 (by decide)] at ev
  rw [ij] at q2
  have ex := zTe (zTadd (zTs x) (zTl zt_1) (by omega) (by omega))
  refine ih w (x + 1) s2 ⟨rfl, i + 1, by rw [ex]; omega, by omega, fun p h11 => by rw [q2]; exact (zg_row_ne h11).trans (hp p h11), fun k hk => ?_, fun j k hj hk => ?_⟩ (by show (24 - (x + 1).toInt).toNat < (24 - x.toInt).toNat; rw [ex]; omega)
  · rw [q2]
    by_cases e : k = i
    · subst e
      exact zgot.trans ev
    · exact (zkeepn (by omega)).trans (hv k (by omega))
  · rw [q2]
    exact (zkeepn (by omega)).trans (ho j k hj hk)
theorem c_sheetOver (q0 q1 : Nat) (h1 : q0 ≠ q1) (h2 : q0 + 1 ≠ q1) (h3 : q0 ≠ q1 + 1) (σ : zg_S) : zk (f_X2_takeOver q0 q1 σ) (fun _ s => s q0 1 = σ q1 1 ∧ ∀ i, i < 24 → s (q0 + 1) i = σ (q1 + 1) i) := by
  unfold f_X2_takeOver
  refine zk_let (fun s1 e1 => zk_let (fun s2 e2 => zk_ite (fun _ => zk_let (fun s3 e3 => zk_some ⟨?_, fun i hi => ?_⟩)) (fun z => absurd (by decide) z)))
  · rw [e3, zg_row_ne (show q0 ≠ q0 + 1 by omega), e2]
    refine zgot.trans ?_
    rw [e1]
    exact congrFun (zg_row_ne (Ne.symm h1)) 1
  · rw [e3, zg_row_eq]
    have f : s2 (q1 + 1) = σ (q1 + 1) := by
      rw [e2]
      refine (zg_row_ne (Ne.symm h3)).trans ?_
      rw [e1]
      exact zg_row_ne (Ne.symm h3)
    rw [pk_cpy_in (show (0 : Int32).toNatClampNeg ≤ i from Nat.zero_le _) (show i < (0 : Int32).toNatClampNeg + (24 : Int32).toNatClampNeg from hi), f]
    congr 1
    show 0 + (i - 0) = i
    omega
theorem v_lay {σ τ : zg_S} (h : RR σ τ) (a b c : Int32) : z2 (f_X6_lay a b c σ) (f_X7_lay a b c τ) SM := by
  have e0 := zt_0
  have e1 := zt_1
  have e2 := zt_2
  have e3 := zt_3
  have o := h.1.2.2.1
  have n0 := o.1.1
  have es : σ 153 3 = τ 1 0 := h.f 0 (by decide)
  rcases r_pre n0.1 a b c with ⟨hO, hr⟩ | ⟨hO, hr⟩
  · rw [hr]
    suffices z2 (f_X6_lay a b c σ) (B_X7_lay_39 a b c 1 τ) (fun r s r' t => r = r' ∧ ((s = σ ∧ t = τ) ∨ ∃ n, a.toNatClampNeg = n ∧ n < 5 ∧ (∀ p k, ¬ (7 ≤ p ∧ p ≤ 11) → t p k = τ p k) ∧ (∀ p j, 7 ≤ p → p ≤ 10 → j ≠ n → t p j = τ p j) ∧ (∀ j i, j ≠ n → i < 24 → t 11 (24 * j + i) = τ 11 (24 * j + i)) ∧ R6j s t n)) by
      obtain ⟨r, s, r', t, q1, q2, q3, q4⟩ := this
      refine ⟨r, s, r', t, q1, q2, q3, ?_⟩
      rcases q4 with ⟨rfl, rfl⟩ | ⟨n, en, h5, t1, t2, t3, t4⟩
      · exact h
      · have hw := w_X6_lay a b c σ
        rw [q1] at hw
        exact h.slot h5 (fun p k hp => hw r s rfl p k (fun z => by unfold W_X6_lay at z; omega)) t1 t2 t3 t4
    unfold f_X6_lay B_X7_lay_39
    refine z2_slot (z2_pL rfl (z2_pR rfl (z2_some ⟨rfl, Or.inl ⟨rfl, rfl⟩⟩))) (fun n hn h5 en zi => z2_nL one_ne (z2_nR one_ne (z2_nR one_ne ?_)))
    have bw : (0 : Int32).toInt ≤ b.toInt ∧ b.toInt ≤ (3 : Int32).toInt := by
      rcases hO with z | z | z | z
      · rw [z]; decide
      · rw [z]; decide
      · rw [z.1]; decide
      · rw [z.1]; decide
    refine z2_eL (c_within1 σ bw) (z2_nL one_ne (z2_pL zi (z2_lL (fun y ey => ?_))))
    obtain ⟨x7, _⟩ := h.2.2.2.2.2 n h5
    rw [en] at ey
    rw [x7] at ey
    unfold B_X7_lay_74 B_X7_lay_109 B_X7_lay_129 B_X6_lay_128
    rw [en]
    have k7 : ∀ (b v w : Int32) (p j : Nat), 7 ≤ p → p ≤ 10 → j ≠ n → zg_up (zg_up (zg_up τ 7 n b) 8 n v) 9 n w p j = τ p j := fun b v w p j _ _ hj => by
      have u : ∀ (ρ : zg_S) (q : Nat) (x : Int32), zg_up ρ q n x p j = ρ p j := fun ρ q x => by
        by_cases e : p = q
        · subst e
          exact zkeepn hj
        · exact congrFun (zg_row_ne e) j
      rw [u, u, u]
    have k0 : ∀ (b v w : Int32) (p k : Nat), (p < 7 ∨ 9 < p) → zg_up (zg_up (zg_up τ 7 n b) 8 n v) 9 n w p k = τ p k := fun b v w p k hp => by
      rw [up_ne (by omega), up_ne (by omega), up_ne (by omega)]
    have g7 : ∀ (b v w : Int32), zg_up (zg_up (zg_up τ 7 n b) 8 n v) 9 n w 7 n = b := fun b v w => by
      rw [up_ne (by decide), up_ne (by decide)]
      exact zgot
    have g8 : ∀ (b v w : Int32), zg_up (zg_up (zg_up τ 7 n b) 8 n v) 9 n w 8 n = v := fun b v w => by
      rw [up_ne (by decide)]
      exact zgot
    have g9 : ∀ (b v w : Int32), zg_up (zg_up (zg_up τ 7 n b) 8 n v) 9 n w 9 n = w := fun b v w => zgot
    rcases hO with z | z | ⟨z, z1⟩ | ⟨z, z1⟩
    · subst z
      refine z2_nL (by decide) (z2_nL (by decide) (z2_nL (by decide) (z2_lL (fun s qs => ?_))))
      refine z2_nR (by decide) (z2_pR zi (z2_lR (fun t1 p1 => z2_nR (by decide) (z2_pR zi (z2_lR (fun t2 p2 => z2_nR (by decide) (z2_pR zi (z2_lR (fun t3 p3 => z2_nR (by decide) (z2_some ⟨ey, Or.inr ⟨n, rfl, h5, ?_⟩⟩))))))))))
      subst p1 p2 p3
      rw [qs]
      exact ⟨fun p k hp => k0 _ _ _ p k (by omega), k7 _ _ _, fun j i _ _ => k0 _ _ _ 11 _ (by omega), by rw [g7]; exact zgot, Or.inl (g7 _ _ _)⟩
    · subst z
      refine z2_nL (by decide) (z2_nL (by decide) (z2_pL rfl (z2_lL (fun s1 q1 => z2_lL (fun s qs => ?_)))))
      refine z2_nR (by decide) (z2_pR zi (z2_lR (fun t1 p1 => z2_nR (by decide) (z2_pR zi (z2_lR (fun t2 p2 => z2_nR (by decide) (z2_pR zi (z2_lR (fun t3 p3 => z2_nR (by decide) (z2_some ⟨ey, Or.inr ⟨n, rfl, h5, ?_⟩⟩))))))))))
      subst p1 p2 p3
      rw [qs, q1]
      exact ⟨fun p k hp => k0 _ _ _ p k (by omega), k7 _ _ _, fun j i _ _ => k0 _ _ _ 11 _ (by omega), by rw [g7]; exact zgot, Or.inr (Or.inr (Or.inr ⟨g7 _ _ _, by rw [g8]; exact (zkeepn (by decide)).trans zgot⟩))⟩
    · subst z
      obtain ⟨m, hm⟩ : ∃ m : Nat, c.toInt = m := ⟨c.toInt.toNat, by omega⟩
      have em : c.toNatClampNeg = m := zTn (zTl hm) rfl
      have sb := o.2.1 m (by omega)
      refine z2_pL rfl (z2_eL (c_isStall1 (by rw [es]; exact z1)) (z2_nL one_ne (z2_pL (zin_mk z1.1 (by omega)) ?_)))
      rw [em]
      refine z2_cL (c_stallOver (61 + 4 * n + 1) (154 + 2 + m) (by omega) σ) (fun _ s1 q1 => z2_lL (fun s qs => ?_))
      refine z2_nR (by decide) (z2_pR zi (z2_lR (fun t1 p1 => z2_pR rfl ?_)))
      refine z2_eR (r_of (g := τ 1) (k := m) (j := 0) (by rw [p1]; exact zg_row_ne (by decide)) hm (by omega) zt_0 (by decide)) (z2_pR zi (z2_lR (fun t2 p2 => z2_pR rfl ?_)))
      refine z2_eR (r_worth (g := τ 1) (n := m) (by rw [p2, p1]; exact (zg_row_ne (by decide)).trans (zg_row_ne (by decide))) hm (by omega) sb.2.2.2) (z2_pR zi (z2_lR (fun t3 p3 => z2_nR (by decide) (z2_some ⟨ey, Or.inr ⟨n, rfl, h5, ?_⟩⟩))))
      subst p1 p2 p3
      have r0 : ∀ j, j < 4 → s (61 + 4 * n + 1) j = τ 1 (11 + 4 * m + j) := fun j hj => by
        rw [qs, up_ne (by omega), q1.1 j hj]
        exact h.s m j (by omega) hj
      refine ⟨fun p k hp => k0 _ _ _ p k (by omega), k7 _ _ _, fun j i _ _ => k0 _ _ _ 11 _ (by omega), by rw [g7, qs]; exact zgot, Or.inr (Or.inl ⟨g7 _ _ _, ?_, ?_, ?_⟩)⟩
      · rw [g8]
        exact r0 0 (by decide)
      · rw [g9, r0 0 (by decide), r0 3 (by decide)]
        rfl
      · rw [g8]
        exact sb.1
    · subst z
      obtain ⟨m, hm⟩ : ∃ m : Nat, c.toInt = m := ⟨c.toInt.toNat, by omega⟩
      have em : c.toNatClampNeg = m := zTn (zTl hm) rfl
      have zc : zin c 4 = true := zin_mk z1.1 (by omega)
      refine z2_nL (by decide) (z2_pL rfl (z2_eL (c_sheet1 z1) (z2_nL one_ne (z2_pL zc ?_))))
      refine z2_pR rfl (z2_pR zc ?_)
      rw [em]
      rcases c_missing h (n := m) (by omega) with ⟨m1, w1⟩ | ⟨m1, m2, w1⟩
      · refine z2_eL w1 (z2_nL one_ne (z2_nR (fun z => ?_) (z2_some ⟨rfl, Or.inl ⟨rfl, rfl⟩⟩)))
        have := zle z
        have := zlt m1
        omega
      refine z2_eL w1 (z2_pL rfl (z2_pR m2 ?_))
      obtain ⟨_, y5, z5, _⟩ := h.2.2.2.2.1 m (by omega)
      refine z2_cL (c_sheetOver (61 + 4 * n + 2) (53 + 2 * m) (by omega) (by omega) (by omega) σ) (fun _ s1 q1 => z2_lL (fun s qs => ?_))
      refine z2_pR zi (z2_lR (fun t1 p1 => z2_nR (by decide) (z2_pR zi (z2_lR (fun t2 p2 => z2_nR (by decide) (z2_pR zi (z2_lR (fun t3 p3 => z2_pR rfl (z2_pR zc (z2_lR (fun v ev => z2_pR zi (z2_lR (fun t4 p4 => ?_)))))))))))))
      subst p1 p2 p3
      obtain ⟨r', t, et, u1, u2, u3, u4⟩ := r_lays (b := 2) (y := τ 7 n) hn h5 hm (by omega) t4
      refine ⟨_, s, r', t, rfl, et, ey.trans u1.symm, Or.inr ⟨n, rfl, h5, ?_⟩⟩
      have v5 : v = τ 5 m := by rw [ev]; exact k0 _ _ _ 5 m (by omega)
      have t4k : ∀ p j, (p ≠ 10 ∨ j ≠ n) → t4 p j = zg_up (zg_up (zg_up τ 7 n 2) 8 n c) 9 n 0 p j := fun p j hj => by
        rw [p4]
        by_cases e : p = 10
        · subst e
          exact zkeepn (by omega)
        · exact congrFun (zg_row_ne e) j
      refine ⟨fun p k hp => ?_, fun p j h1 h2 hj => ?_, fun j i hj hi => ?_, ?_, Or.inr (Or.inr (Or.inl ⟨?_, ?_, fun i hi => ?_⟩))⟩
      · rw [u2 p (by omega), t4k p k (by omega)]
        exact k0 _ _ _ p k (by omega)
      · rw [u2 p (by omega), t4k p j (by omega)]
        exact k7 _ _ _ p j h1 h2 hj
      · rw [u4 j i hj hi, t4k 11 _ (by omega)]
        exact k0 _ _ _ 11 _ (by omega)
      · rw [u2 7 (by decide), t4k 7 n (by omega), g7, qs]
        exact zgot
      · rw [u2 7 (by decide), t4k 7 n (by omega), g7]
      · rw [u2 10 (by decide), p4, qs, up_ne (by omega), q1.1, y5, ← v5]
        exact zgot.symm
      · rw [u3 i hi, t4k 6 _ (by omega), k0 _ _ _ 6 _ (by omega), qs, up_ne (by omega), q1.2 i hi]
        exact z5 i hi
  · rw [hr]
    unfold f_X6_lay B_X7_lay_39
    refine z2_slot (z2_pL rfl (z2_pR rfl (z2_some (SM.rf h)))) (fun n hn h5 en zi => z2_nL one_ne (z2_nR one_ne (z2_pR rfl ?_)))
    refine z2_mono (P := fun r s r' t => r = -1000000001 ∧ s = σ ∧ r' = -1000000001 ∧ t = τ) ?_ (fun r s r' t q => ⟨q.1.trans q.2.2.1.symm, by rw [q.2.1, q.2.2.2]; exact h⟩)
    by_cases bw : (0 : Int32).toInt ≤ b.toInt ∧ b.toInt ≤ (3 : Int32).toInt
    · refine z2_eL (c_within1 σ bw) (z2_nL one_ne (z2_pL zi (z2_lL (fun y ey => ?_))))
      refine z2_iL (fun b1 => ?_) (fun b1 => z2_iL (fun b2 => ?_) (fun b2 => z2_iL (fun b3 => ?_) (fun b3 => ?_)))
      · exact z2_eL (c_isStall0 (by rw [es]; exact n0.1) (by rw [es]; exact fun z => hO (Or.inr (Or.inr (Or.inl ⟨b1, z⟩))))) (z2_pL rfl (z2_some ⟨rfl, rfl, rfl, rfl⟩))
      · exact z2_eL (c_sheet0 (fun z => hO (Or.inr (Or.inr (Or.inr ⟨b2, z⟩))))) (z2_pL rfl (z2_some ⟨rfl, rfl, rfl, rfl⟩))
      · exact absurd (Or.inr (Or.inl b3)) hO
      · have n1 : ¬ b.toInt = 1 := fun z => b1 (Int32.toInt_inj.mp (by omega))
        have n2 : ¬ b.toInt = 2 := fun z => b2 (Int32.toInt_inj.mp (by omega))
        have n3 : ¬ b.toInt = 3 := fun z => b3 (Int32.toInt_inj.mp (by omega))
        exact absurd (Or.inl (Int32.toInt_inj.mp (by omega))) hO
    · exact z2_eL (c_within0 σ bw) (z2_pL rfl (z2_some ⟨rfl, rfl, rfl, rfl⟩))
end
section
/-! check -/
theorem r_aside (q1 q2 : Nat) (σ : zg_S) (h1 : 2847 ≤ mln q1) (h2 : 2847 ≤ mln q2) (hne : q1 ≠ q2) : zk (f_X7_setAside q1 q2 σ) (fun _ s => (∀ k, k < 2847 → s q2 k = σ q1 k) ∧ (∀ k, 2847 ≤ k → s q2 k = σ q2 k) ∧ ∀ p, p ≠ q2 → s p = σ p) := by
  have e0 := zt_0
  have e9 := zt_2847
  have l1 : (ML).2.2 q1 = mln q1 := rfl
  have l2 : (ML).2.2 q2 = mln q2 := rfl
  unfold f_X7_setAside L_X7_setAside_2
  refine zl_I (fun (x : Int32) (s : zg_S) => ∃ i : Nat, x.toInt = i ∧ i ≤ 2847 ∧ (∀ k : Nat, k < i → s q2 k = σ q1 k) ∧ (∀ k : Nat, i ≤ k → s q2 k = σ q2 k) ∧ (∀ p, p ≠ q2 → s p = σ p)) (fun (x : Int32) (_ : zg_S) => (2847 - x.toInt).toNat) ?_ zfu _ _ ⟨0, e0, by omega, fun k hk => by omega, fun k _ => rfl, fun p _ => rfl⟩ (by unfold zfu; omega)
  intro rec x s hI ih
  obtain ⟨i, hi, hi2, ha, hb, hp⟩ := hI
  unfold B_X7_setAside_2
  refine zk_ite (fun h => ?_) (fun h => ?_)
  · have g := zle h
    exact zk_some ⟨fun k hk => ha k (by omega), fun k hk => hb k (by omega), hp⟩
  · have g := znle h
    have en : x.toNatClampNeg = i := zTn (zTl hi) rfl
    refine zk_in (zin_mk (by omega) (by rw [l1]; omega)) (zk_let (fun y ey => ?_))
    refine zk_in (zin_mk (by omega) (by rw [l2]; omega)) (zk_let (fun t q => ?_))
    rw [en] at ey q
    have ex := zTe (zTadd (zTs x) (zTl zt_1) (by omega) (by omega))
    refine ih (x + 1) t ⟨i + 1, by rw [ex, hi]; rfl, by omega, fun k hk => ?_, fun k hk => ?_, fun p hq => ?_⟩ (by show (2847 - (x + 1).toInt).toNat < (2847 - x.toInt).toNat; rw [ex]; omega)
    · rw [q]
      by_cases e : k = i
      · subst e
        exact zgot.trans (ey.trans (congrFun (hp q1 hne) _))
      · exact (zkeepn e).trans (ha k (by omega))
    · rw [q]
      exact (zkeepn (by omega)).trans (hb k (by omega))
    · rw [q]
      exact (zg_row_ne hq).trans (hp p hq)
def ckR (T d : Nat → Int32) (c m : Nat) (r : Int32) : Prop := ∃ x : Nat, x ≤ c ∧ x ≤ m ∧ (∀ j, j < x → T j = d j) ∧ (x < c → x < m → ¬ T x = d x) ∧ r.toInt = if x = c ∧ x = m then 0 else 1 + (x : Int)
theorem ckR_u {T T' d d' : Nat → Int32} {c m : Nat} {r r' : Int32} (hT : ∀ j, j < c → T j = T' j) (hd : ∀ j, j < m → d j = d' j) (h : ckR T d c m r) (h' : ckR T' d' c m r') : r = r' := by
  obtain ⟨x, x1, x2, x3, x4, x5⟩ := h
  obtain ⟨y, y1, y2, y3, y4, y5⟩ := h'
  have e : x = y := by
    by_cases l : x < y
    · exact absurd ((hT x (by omega)).trans ((y3 x l).trans (hd x (by omega)).symm)) (x4 (by omega) (by omega))
    · by_cases l2 : y < x
      · exact absurd ((hT y (by omega)).symm.trans ((x3 y l2).trans (hd y (by omega)))) (y4 (by omega) (by omega))
      · omega
  subst e
  exact Int32.toInt_inj.mp (x5.trans y5.symm)
def due (g : Nat → Int32) (j : Nat) : Int32 := if j % 2 = 0 then sGn g (j / 2 + 1) 4 else sGn g (j / 2 + 1) 7
theorem dueE (g : Nat → Int32) (i : Nat) : due g (2 * i) = sGn g (i + 1) 4 := by
  unfold due
  rw [if_pos (by omega), show 2 * i / 2 = i by omega]
theorem dueO (g : Nat → Int32) (i : Nat) : due g (2 * i + 1) = sGn g (i + 1) 7 := by
  unfold due
  rw [if_neg (by omega), show (2 * i + 1) / 2 = i by omega]
theorem c_check {a : Int32} {σ : zg_S} {g : Nat → Int32} (hE : EQB σ 165 g) (hT : TXR σ 165 g) (o : gOK g) (hC : gC g) (h9 : (g 2).toInt ≤ 9999) {x2 x3 : Int32} {c m : Nat} (h2 : x2.toInt = c) (h3 : x3.toInt = m) (hc : c ≤ 60) (hm : m ≤ 30) : zk (L_X6_check_64 a zfu x2 x3 0 σ) (fun r s => ckR (σ 5) (due g) c (2 * m) r ∧ s 0 11 = σ 0 11) := by
  have e0 := zt_0
  have e1 := zt_1
  have e2 := zt_2
  unfold L_X6_check_64
  refine zl_III (fun (y2 y3 x : Int32) (s : zg_S) => y2 = x2 ∧ y3 = x3 ∧ ∃ i : Nat, x.toInt = i ∧ i ≤ m ∧ 2 * i ≤ c ∧ (∀ j, j < 2 * i → σ 5 j = due g j) ∧ EQB s 165 (sGn g i) ∧ TXR s 165 (sGn g i) ∧ (∀ k, s 5 k = σ 5 k) ∧ s 0 11 = σ 0 11) (fun (_ _ x : Int32) (_ : zg_S) => (31 - x.toInt).toNat) ?_ zfu _ _ _ _ ⟨rfl, rfl, 0, e0, by omega, by omega, fun j hj => by omega, hE, hT, fun _ => rfl, rfl⟩ (by unfold zfu; omega)
  intro rec y2 y3 x s hI ih
  obtain ⟨rfl, rfl, i, hi, him, hic, hj, hEs, hTs, h5, h11⟩ := hI
  unfold B_X6_check_64
  have t3 := zTmul (zTl zt_2) (zTs y3) (by omega) (by omega)
  have tx := zTmul (zTl zt_2) (zTs x) (by omega) (by omega)
  refine zk_ite (fun hle => ?_) (fun hlt => ?_)
  · have := zle hle
    have : i = m := by omega
    subst this
    refine zk_ite (fun h => ?_) (fun h => ?_)
    · have := zle h
      rw [zTe t3] at this
      refine zk_some ⟨⟨2 * i, hic, by omega, hj, fun z _ => by omega, ?_⟩, h11⟩
      rw [if_pos (by omega)]
      rfl
    · have := znle h
      rw [zTe t3] at this
      refine zk_some ⟨⟨2 * i, hic, by omega, hj, fun _ z => by omega, ?_⟩, h11⟩
      rw [if_neg (by omega), zTe (zTadd (zTl zt_1) t3 (by omega) (by omega))]
      omega
  · have gl := znle hlt
    obtain ⟨x1, _⟩ := sGn_ok o hC i (by omega)
    have ex := zTe (zTadd (zTs x) (zTl zt_1) (by omega) (by omega))
    have tx1 := zTadd tx (zTl zt_1) (by omega) (by omega)
    refine c_go hEs hTs x1 (by decide) (fun r u hE' hX' hw => ?_)
    have u5 : ∀ k, u 5 k = σ 5 k := fun k => (hw 5 k (by unfold W_X0_passHour; omega)).trans (h5 k)
    have u11 : u 0 11 = σ 0 11 := (hw 0 11 (by unfold W_X0_passHour; omega)).trans h11
    have n113 : (c ≤ 2 * i ∨ ¬ σ 5 (2 * i) = due g (2 * i)) → zk (B_X6_check_113 a (2 * x) u) (fun r s => ckR (σ 5) (due g) c (2 * m) r ∧ s 0 11 = σ 0 11) := fun hd => by
      unfold B_X6_check_113
      refine zk_some ⟨⟨2 * i, hic, by omega, hj, fun z _ => hd.elim (fun w => by omega) id, ?_⟩, u11⟩
      rw [if_neg (by omega), zTe (zTadd (zTl zt_1) tx (by omega) (by omega))]
      omega
    have n145 : σ 5 (2 * i) = due g (2 * i) → 2 * i < c → (c ≤ 2 * i + 1 ∨ ¬ σ 5 (2 * i + 1) = due g (2 * i + 1)) → zk (B_X6_check_145 a (2 * x) u) (fun r s => ckR (σ 5) (due g) c (2 * m) r ∧ s 0 11 = σ 0 11) := fun hz hlt hd => by
      unfold B_X6_check_145
      refine zk_some ⟨⟨2 * i + 1, by omega, by omega, fun j hj' => ?_, fun z _ => hd.elim (fun w => by omega) id, ?_⟩, u11⟩
      · by_cases e : j = 2 * i
        · subst e; exact hz
        · exact hj j (by omega)
      · rw [if_neg (by omega), zTe (zTadd (zTl zt_2) tx (by omega) (by omega))]
        omega
    refine zk_ite (fun h => n113 (Or.inl ?_)) (fun h => ?_)
    · have := zle h
      rw [zTe tx] at this
      omega
    have g1 := znle h
    rw [zTe tx] at g1
    refine zk_in (zin_mkT tx (by omega) (by omega)) ?_
    rw [zTn tx (show (2 * x.toInt : Int) = ((2 * i : Nat) : Int) by omega), u5, show u 165 11 = due g (2 * i) from (hE'.f 4 (by decide)).trans (dueE g i).symm]
    refine zk_ite (fun hq => ?_) (fun hq => n113 (Or.inr hq))
    refine zk_ite (fun h => n145 hq (by omega) (Or.inl ?_)) (fun h => ?_)
    · have := zle h
      rw [zTe tx1] at this
      omega
    have g2 := znle h
    rw [zTe tx1] at g2
    refine zk_in (zin_mkT tx1 (by omega) (by omega)) ?_
    rw [zTn tx1 (show (2 * x.toInt + 1 : Int) = ((2 * i + 1 : Nat) : Int) by omega), u5, show u 165 6 = due g (2 * i + 1) from (hE'.f 7 (by decide)).trans (dueO g i).symm]
    refine zk_ite (fun hq2 => ?_) (fun hq2 => n145 hq (by omega) (Or.inr hq2))
    refine ih y2 y3 (x + 1) u ⟨rfl, rfl, i + 1, by rw [ex, hi]; rfl, by omega, by omega, fun j hj' => ?_, hE', hX', u5, u11⟩ (by show (31 - (x + 1).toInt).toNat < (31 - x.toInt).toNat; rw [ex]; omega)
    by_cases e : j = 2 * i
    · subst e; exact hq
    · by_cases e2 : j = 2 * i + 1
      · subst e2; exact hq2
      · exact hj j (by omega)
theorem r_cmp {a x2 x3 : Int32} {c m : Nat} (h2 : x2.toInt = c) (h3 : x3.toInt = m) (hc : c ≤ 60) (hm : m ≤ 60) (τ : zg_S) : zk (L_X7_check_138 a zfu x2 x3 0 τ) (fun r s => s = τ ∧ ckR (τ 17) (τ 18) c m r) := by
  have e0 := zt_0
  have e1 := zt_1
  unfold L_X7_check_138
  refine zl_III (fun (y2 y3 x : Int32) (s : zg_S) => y2 = x2 ∧ y3 = x3 ∧ s = τ ∧ ∃ i : Nat, x.toInt = i ∧ i ≤ m ∧ i ≤ c ∧ (∀ j, j < i → τ 17 j = τ 18 j)) (fun (_ _ x : Int32) (_ : zg_S) => (61 - x.toInt).toNat) ?_ zfu _ _ _ _ ⟨rfl, rfl, rfl, 0, e0, by omega, by omega, fun j hj => by omega⟩ (by unfold zfu; omega)
  intro rec y2 y3 x s hI ih
  obtain ⟨rfl, rfl, rfl, i, hi, him, hic, hj⟩ := hI
  have en : x.toNatClampNeg = i := zTn (zTl hi) rfl
  have ex1 := zTe (zTadd (zTl zt_1) (zTs x) (by omega) (by omega))
  have fin : (i < c → i < m → ¬ s 17 i = s 18 i) → zk (B_X7_check_173 a y2 y3 x s) (fun r t => t = s ∧ ckR (s 17) (s 18) c m r) := fun hd => by
    unfold B_X7_check_173 B_X7_check_189
    refine zk_ite (fun h => ?_) (fun h => ?_)
    · have := zeq h
      refine zk_ite (fun h' => ?_) (fun h' => ?_)
      · have := zeq h'
        refine zk_some ⟨rfl, i, hic, him, hj, hd, ?_⟩
        rw [if_pos (by omega)]
        rfl
      · refine zk_some ⟨rfl, i, hic, him, hj, hd, ?_⟩
        rw [if_neg (fun z => h' (Int32.toInt_inj.mp (by omega))), ex1]
        omega
    · refine zk_some ⟨rfl, i, hic, him, hj, hd, ?_⟩
      rw [if_neg (fun z => h (Int32.toInt_inj.mp (by omega))), ex1]
      omega
  unfold B_X7_check_138
  refine zk_ite (fun h => fin (fun z _ => by have := zle h; omega)) (fun h => ?_)
  refine zk_ite (fun h' => fin (fun _ z => by have := zle h'; omega)) (fun h' => ?_)
  have g1 := znle h
  have g2 := znle h'
  refine zk_in (zin_mk (by omega) (by omega)) ?_
  rw [en]
  refine zk_ite (fun hq => ?_) (fun hq => fin (fun _ _ => hq))
  have ex := zTe (zTadd (zTs x) (zTl zt_1) (by omega) (by omega))
  refine ih y2 y3 (x + 1) s ⟨rfl, rfl, rfl, i + 1, by rw [ex, hi]; rfl, by omega, by omega, fun j hj' => ?_⟩ (by show (61 - (x + 1).toInt).toNat < (61 - x.toInt).toNat; rw [ex]; omega)
  by_cases e : j = i
  · subst e; exact hq
  · exact hj j (by omega)
theorem ckR_d {T d d' : Nat → Int32} {c m : Nat} {r : Int32} (hd : ∀ j, j < m → d j = d' j) (h : ckR T d c m r) : ckR T d' c m r := by
  obtain ⟨x, x1, x2, x3, x4, x5⟩ := h
  exact ⟨x, x1, x2, fun j hj => (x3 j hj).trans (hd j (by omega)), fun z z' w => x4 z z' (w.trans (hd x z').symm), x5⟩
theorem r_check {a x2 : Int32} {τ : zg_S} {g : Nat → Int32} (h1 : τ 1 = g) (o : gOK g) (hC : gC g) (hV : tvs g) (h9 : (g 2).toInt ≤ 9999) {c m : Nat} (h2 : x2.toInt = c) (hc : c ≤ 60) (ha : a.toInt ≤ 30) (m1 : (m : Int) ≤ a.toInt) (m2 : (m : Int) ≤ 9999 - (g 2).toInt) (m3 : (m : Int) = a.toInt ∨ (m : Int) = 9999 - (g 2).toInt) : zk (L_X7_check_65 a zfu x2 0 0 τ) (fun r s => ckR (τ 17) (due g) c (2 * m) r ∧ (∀ k, k < 2847 → s 1 k = τ 3 k) ∧ (∀ k, 2847 ≤ k → s 1 k = g k) ∧ s 0 29 = τ 0 29) := by
  have e0 := zt_0
  have e1 := zt_1
  have e2 := zt_2
  have e9 := zt_9999
  unfold L_X7_check_65
  refine zl_III (fun (y2 y x : Int32) (s : zg_S) => y2 = x2 ∧ ∃ i : Nat, x.toInt = i ∧ y.toInt = 2 * i ∧ i ≤ m ∧ s 1 = sGn g i ∧ (∀ j, j < 2 * i → s 18 j = due g j) ∧ s 17 = τ 17 ∧ s 3 = τ 3 ∧ s 0 = τ 0) (fun (_ _ x : Int32) (_ : zg_S) => (31 - x.toInt).toNat) ?_ zfu _ _ _ _ ⟨rfl, 0, e0, e0, by omega, h1, fun j hj => by omega, rfl, rfl, rfl⟩ (by unfold zfu; omega)
  intro rec y2 y x s hI ih
  obtain ⟨rfl, i, hi, hy, him, hs, hd, h17, h3, h0⟩ := hI
  obtain ⟨x1, _, x3, x4, _⟩ := sGn_ok o hC i (by omega)
  have fin : i = m → zk (B_X7_check_123 a y2 y s) (fun r s => ckR (τ 17) (due g) c (2 * m) r ∧ (∀ k, k < 2847 → s 1 k = τ 3 k) ∧ (∀ k, 2847 ≤ k → s 1 k = g k) ∧ s 0 29 = τ 0 29) := fun e => by
    subst e
    unfold B_X7_check_123
    refine zk_call (r_aside 3 1 s (by decide) (by decide) (by decide)) (fun _ t q => ?_)
    obtain ⟨q1, q2, q3⟩ := q
    refine zk_mono (r_cmp (m := 2 * i) h2 (by omega) hc (by omega) t) (fun r u w => ?_)
    obtain ⟨rfl, w2⟩ := w
    refine ⟨?_, fun k hk => by rw [q1 k hk, h3], fun k hk => by rw [q2 k hk, hs]; exact x4.2 k (by omega), by rw [q3 0 (by decide), h0]⟩
    rw [q3 17 (by decide), h17, q3 18 (by decide)] at w2
    exact ckR_d hd w2
  unfold B_X7_check_65
  refine zk_ite (fun h => fin (by have := zle h; omega)) (fun h => ?_)
  rw [hs]
  refine zk_ite (fun h' => fin (by have := zle h'; omega)) (fun h' => ?_)
  have g1 := znle h
  have g2 := znle h'
  refine zk_call (r_go hs x1 (hV.st x4)) (fun _ t q => ?_)
  obtain ⟨t1, tw⟩ := q
  have y1 := zTadd (zTs y) (zTl zt_1) (by omega) (by omega)
  have ey : y.toNatClampNeg = 2 * i := zTn (zTs y) (by omega)
  refine zk_in (zin_mk (by omega) (by omega)) (zk_let (fun u qu => zk_in (zin_mkT y1 (by omega) (by omega)) (zk_let (fun v qv => ?_))))
  rw [ey] at qu
  rw [zTn y1 (show (y.toInt + 1 : Int) = ((2 * i + 1 : Nat) : Int) by omega)] at qv
  have tk : ∀ p, p ≠ 1 → p ≠ 14 → p ≠ 15 → t p = s p := fun p a1 a2 a3 => funext (fun k => tw p k (by unfold W_X7_goesOn; omega))
  have vk : ∀ p, p ≠ 18 → v p = t p := fun p hp => by
    rw [qv, up_ne hp, qu, up_ne hp]
  have u1 : u 1 = t 1 := by rw [qu]; exact up_ne (by decide)
  have ex := zTe (zTadd (zTs x) (zTl zt_1) (by omega) (by omega))
  have eyy := zTe (zTadd (zTs y) (zTl zt_2) (by omega) (by omega))
  refine ih y2 (y + 2) (x + 1) v ⟨rfl, i + 1, by rw [ex, hi]; rfl, by rw [eyy]; omega, by omega, (vk 1 (by decide)).trans t1, fun j hj => ?_, by rw [vk 17 (by decide), tk 17 (by decide) (by decide) (by decide), h17], by rw [vk 3 (by decide), tk 3 (by decide) (by decide) (by decide), h3], by rw [vk 0 (by decide), tk 0 (by decide) (by decide) (by decide), h0]⟩ (by show (31 - (x + 1).toInt).toNat < (31 - x.toInt).toNat; rw [ex]; omega)
  by_cases c1 : j = 2 * i + 1
  · subst c1
    rw [qv, dueO, u1, t1]
    exact zgot
  · rw [qv, show zg_up u 18 (2 * i + 1) (u 1 7) 18 j = u 18 j from zkeepn c1, qu]
    by_cases c2 : j = 2 * i
    · subst c2
      rw [dueE, t1]
      exact zgot
    · rw [show zg_up t 18 (2 * i) (t 1 4) 18 j = t 18 j from zkeepn c2, tk 18 (by decide) (by decide) (by decide)]
      exact hd j (by omega)
theorem v_check {σ τ : zg_S} (h : RR σ τ) (hM : 0 ≤ (τ 0 29).toInt ∧ (τ 0 29).toInt ≤ 60) (a : Int32) : z2 (f_X6_check a σ) (f_X7_check a τ) SM := by
  have e0 := zt_0
  have e1 := zt_1
  have e30 := zt_30
  have e9 := zt_9999
  obtain ⟨hc, hl⟩ := h.2.2.2.1
  suffices z2 (f_X6_check a σ) (f_X7_check a τ) (fun r s r' t => r = r' ∧ s 0 11 = 0 ∧ t 0 29 = 0 ∧ t 1 = τ 1) by
    refine z2_mono (z2_w this (w_X6_check a σ) (w_X7_check a τ)) (fun r s r' t hq => ?_)
    obtain ⟨⟨q1, q2, q3, q4⟩, hw, hw'⟩ := hq
    have h0 : RR (zg_up σ 0 11 0) (zg_up τ 0 29 0) := by
      refine h.r4 (fun p k hp => ?_) (fun p k hp => ?_) ⟨zgot.trans zgot.symm, fun i hi => ?_⟩
      · by_cases e : p = 0
        · subst e
          exact zkeepn (by omega)
        · exact congrFun (zg_row_ne e) k
      · by_cases e : p = 0
        · subst e
          exact zkeepn (by omega)
        · exact congrFun (zg_row_ne e) k
      · rw [zgot] at hi
        omega
    refine ⟨q1, h0.same (fun p k hp => ?_) (fun p k h1 h2 => ?_) (fun p k hp => ?_) (q4.trans (up_ne (by decide)).symm)⟩
    · by_cases e : p = 0 ∧ k = 11
      · obtain ⟨rfl, rfl⟩ := e
        exact q2.trans zgot.symm
      · rw [hw p k (fun z => by unfold W_X6_check at z; unfold sideC at hp; omega)]
        by_cases e2 : p = 0
        · subst e2
          exact (zkeepn (by omega)).symm
        · exact (congrFun (zg_row_ne e2) k).symm
    · rw [hw p k (fun z => by unfold W_X6_check at z; omega)]
      exact (congrFun (zg_row_ne (by omega)) k).symm
    · by_cases e : p = 0 ∧ k = 29
      · obtain ⟨rfl, rfl⟩ := e
        exact q3.trans zgot.symm
      · rw [hw' p k (fun z => by unfold W_X7_check at z; unfold sideM at hp; omega)]
        by_cases e2 : p = 0
        · subst e2
          exact (zkeepn (by omega)).symm
        · exact (congrFun (zg_row_ne e2) k).symm
  unfold f_X6_check f_X7_check
  refine z2_lL (fun s0 q0 => z2_lR (fun t0 p0 => ?_))
  have sk : ∀ p k, ¬ (p = 0 ∧ k = 11) → s0 p k = σ p k := fun p k hp => by
    rw [q0]
    by_cases e : p = 0
    · subst e
      exact zkeepn (by omega)
    · exact congrFun (zg_row_ne e) k
  have tk : ∀ p k, ¬ (p = 0 ∧ k = 29) → t0 p k = τ p k := fun p k hp => by
    rw [p0]
    by_cases e : p = 0
    · subst e
      exact zkeepn (by omega)
    · exact congrFun (zg_row_ne e) k
  have s11 : s0 0 11 = 0 := by rw [q0]; exact zgot
  have t29 : t0 0 29 = 0 := by rw [p0]; exact zgot
  have t01 : t0 1 = τ 1 := funext (fun k => tk 1 k (by omega))
  refine z2_within (fun _ => z2_pL rfl (z2_pR rfl (z2_some ⟨rfl, s11, t29, t01⟩))) (fun a1 a2 => z2_nL one_ne (z2_nR one_ne ?_))
  rw [show s0 0 12 = t0 0 3 by rw [sk 0 12 (by omega), tk 0 3 (by omega)]; exact h.2.1.1]
  refine z2_iL (fun d => z2_pR d (z2_some ⟨rfl, s11, t29, t01⟩)) (fun d => z2_nR d ?_)
  obtain ⟨i1, i2⟩ := h.2.1.2 (by rw [← tk 0 3 (by omega)]; exact d)
  have i0 : BZ s0 177 (τ 2) := bz_wr i1 (by decide) (fun q k _ _ => sk q k (by omega)) (fun q k _ _ _ => sk q k (by omega))
  refine z2_cR (r_aside 1 3 t0 (by decide) (by decide) (by decide)) (fun _ t1 p1 => ?_)
  refine z2_cR (r_aside 2 1 t1 (by decide) (by decide) (by decide)) (fun _ t2 p2 => ?_)
  obtain ⟨a3, a4, a5⟩ := p1
  obtain ⟨b3, b4, b5⟩ := p2
  have ag : AG (τ 2) (t2 1) := fun k hk => by
    rw [b3 k hk, a5 2 (by decide)]
    exact tk 2 k (by omega)
  obtain ⟨gE, gT, o, hC, h9⟩ := bz_ag ag i0
  refine z2_cL (zk_w (c_takeOver (p := 165) gE gT o.1.1 o.2.2.1.2 (by decide) (by decide) (by decide)) (w_X0_takeOver 165 177 s0)) (fun _ s1 q1 => z2_lL (fun y ey => ?_))
  obtain ⟨⟨cE, cT⟩, cw⟩ := q1
  have g2 := o.1.2.1
  have e7 : s1 177 7 = t2 1 2 := (cw 177 7 (by unfold W_X0_takeOver; omega)).trans (gE.f 2 (by decide))
  rw [e7] at ey
  have t9 := zTe (zTsub (zTl zt_9999) (zTs (t2 1 2)) (by omega) (by omega))
  obtain ⟨m, hm, m1, m2, m3⟩ : ∃ m : Nat, y.toInt = m ∧ (m : Int) ≤ a.toInt ∧ (m : Int) ≤ 9999 - (t2 1 2).toInt ∧ ((m : Int) = a.toInt ∨ (m : Int) = 9999 - (t2 1 2).toInt) := by
    refine ⟨y.toInt.toNat, ?_⟩
    by_cases c : 9999 - t2 1 2 < a
    · rw [if_pos c] at ey
      have := zlt c
      rw [t9] at this
      rw [ey, t9]
      omega
    · rw [if_neg c] at ey
      have := znlt c
      rw [t9] at this
      rw [ey]
      omega
  obtain ⟨n, hn⟩ : ∃ n : Nat, (τ 0 29).toInt = n := ⟨(τ 0 29).toInt.toNat, by omega⟩
  rw [hc]
  have t2k : ∀ p k, p ≠ 1 → p ≠ 3 → t2 p k = t0 p k := fun p k x y => by rw [b5 p x, a5 p y]
  refine z2_kk (c_check cE cT o hC h9 hn hm (by omega) (by omega)) (r_check rfl o hC gT.tv h9 hn (by omega) (by omega) m1 m2 m3) (fun r s r' t q q' => ?_)
  obtain ⟨w1, w2⟩ := q
  obtain ⟨v1, v2, v3, v4⟩ := q'
  refine ⟨ckR_u (fun j hj => ?_) (fun _ _ => rfl) w1 v1, ?_, ?_, funext (fun k => ?_)⟩
  · rw [cw 5 j (by unfold W_X0_takeOver; omega), sk 5 j (by omega), t2k 17 j (by decide) (by decide), tk 17 j (by omega)]
    exact hl j (by omega)
  · rw [w2, cw 0 11 (by unfold W_X0_takeOver; omega)]
    exact s11
  · rw [v4, t2k 0 29 (by decide) (by decide)]
    exact t29
  · by_cases c : k < 2847
    · rw [v2 k c, b5 3 (by decide), a3 k c]
      exact tk 1 k (by omega)
    · rw [v3 k (by omega), b4 k (by omega), a5 1 (by decide)]
      exact tk 1 k (by omega)
end
