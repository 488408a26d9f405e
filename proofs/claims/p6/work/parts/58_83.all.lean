/-! ALL CALLS: both sides answer alike (whose: its answer is left out), and what holds between them is kept -/
theorem mz (p k : Nat) : mconI p k 0 := by
  unfold mconI
  split <;> (try split) <;> first | trivial | omega
theorem xz (kd k : Nat) : xconI kd k 0 := by
  unfold xconI
  split <;> first | trivial | omega
theorem IX0 (fd : Nat → Nat → Int32) : IX (x0 fd) := by
  intro p k
  unfold xcon x0
  generalize xkd p = kd
  match kd with
  | 0 =>
    match k with
    | 0 => trivial
    | 1 => trivial
    | 2 => trivial
    | 3 => exact xz 0 3
    | 4 => exact xz 0 4
    | k + 5 => trivial
  | 1 => exact xz 1 k
  | 2 =>
    match k with
    | 0 => trivial
    | k + 1 => exact xz 2 (k + 1)
  | 3 => exact xz 3 k
  | 4 => exact xz 4 k
  | 5 => exact xz 5 k
  | 6 => exact xz 6 k
  | 7 => exact xz 7 k
  | 8 => trivial
  | kd + 9 => trivial
theorem IM0 {fm : Nat → Nat → Int32} (h : ini2 fm) : IM (m0 fm) := by
  have h0 := h.1
  have h1 := h.2.1
  refine ⟨fun p k => ?_, fun t ht => ?_, fun hn => absurd rfl hn⟩
  · match p with
    | 0 => exact mz 0 k
    | 1 =>
      match k with
      | 0 => show mconI 1 0 (fm 1 0).toInt; rw [h0]; exact mz 1 0
      | 1 => show mconI 1 1 (fm 1 1).toInt; rw [h1]; exact mz 1 1
      | k + 2 => trivial
    | 2 => exact mz 2 k
    | 3 => exact mz 3 k
    | 4 => trivial
    | p + 5 => exact mz (p + 5) k
  · have e : (m0 fm 1 1).toInt = 0 := by show (fm 1 1).toInt = 0; rw [h1]; exact zt_0
    omega
theorem z2_all {o o' : Option (Int32 × zg_S)} {P : Int32 → zg_S → Int32 → zg_S → Prop} {Q Q' : Int32 → zg_S → Prop} (h : z2 o o' P) (h1 : zk o Q) (h2 : zk o' Q') : ∃ (r : Int32) (s : zg_S) (r' : Int32) (t : zg_S), o = some (r, s) ∧ o' = some (r', t) ∧ P r s r' t ∧ Q r s ∧ Q' r' t := by
  obtain ⟨r, s, r', t, e, e', q⟩ := h
  obtain ⟨r1, s1, e1, q1⟩ := h1
  obtain ⟨r2, t2, e2, q2⟩ := h2
  have e3 := e.symm.trans e1
  have e4 := e'.symm.trans e2
  injection e3 with e3
  injection e3 with ea eb
  injection e4 with e4
  injection e4 with ec ed
  subst ea
  subst eb
  subst ec
  subst ed
  exact ⟨_, _, _, _, e, e', q, q1, q2⟩
def lw_R (σ τ : zg_S) : Prop := IX σ ∧ IM τ ∧ RR σ τ
theorem lw_R0 {fd fm : Nat → Nat → Int32} (h1 : ini1 fd) (h2 : ini2 fm) : lw_R (x0 fd) (m0 fm) := ⟨IX0 fd, IM0 h2, RR0 h1 h2⟩
theorem sv_stall {σ τ : zg_S} (h : lw_R σ τ) (a0 a1 a2 : Int32) : ∃ (r : Int32) (σ' : zg_S) (r' : Int32) (τ' : zg_S), f_X6_stall a0 a1 a2 σ = some (r, σ') ∧ f_X7_stall a0 a1 a2 τ = some (r', τ') ∧ lw_R σ' τ' ∧ r = r' := by
  obtain ⟨r, s, r', t, e, e', hv, hs, ht⟩ := z2_all (v_stall h.2.2 a0 a1 a2) (s_X6_stall a0 a1 a2 σ h.1) (s_X7_stall a0 a1 a2 τ h.2.1.1)
  exact ⟨r, s, r', t, e, e', ⟨hs, h.2.1.hi ht.1 ht.2, hv.2⟩, hv.1⟩
theorem sv_told {σ τ : zg_S} (h : lw_R σ τ) (a0 a1 : Int32) : ∃ (r : Int32) (σ' : zg_S) (r' : Int32) (τ' : zg_S), f_X6_told a0 a1 σ = some (r, σ') ∧ f_X7_told a0 a1 τ = some (r', τ') ∧ lw_R σ' τ' ∧ r = r' := by
  obtain ⟨r, s, r', t, e, e', hv, hs, ht⟩ := z2_all (v_told h.2.2 a0 a1) (s_X6_told a0 a1 σ h.1) (s_X7_told a0 a1 τ h.2.1.1 h.2.1.2.1)
  exact ⟨r, s, r', t, e, e', ⟨hs, h.2.1.hi ht.1 ht.2, hv.2⟩, hv.1⟩
theorem sv_as {σ τ : zg_S} (h : lw_R σ τ) (a0 a1 : Int32) : ∃ (r : Int32) (σ' : zg_S) (r' : Int32) (τ' : zg_S), f_X6_as a0 a1 σ = some (r, σ') ∧ f_X7_as a0 a1 τ = some (r', τ') ∧ lw_R σ' τ' ∧ r = r' := by
  obtain ⟨r, s, r', t, e, e', hv, hs, ht⟩ := z2_all (v_as h.2.2 a0 a1) (s_X6_as a0 a1 σ h.1) (s_X7_as a0 a1 τ h.2.1.1)
  exact ⟨r, s, r', t, e, e', ⟨by rw [← hs]; exact h.1, by rw [← ht]; exact h.2.1, hv.2⟩, hv.1⟩
theorem sv_turns {σ τ : zg_S} (h : lw_R σ τ) (a0 a1 : Int32) : ∃ (r : Int32) (σ' : zg_S) (r' : Int32) (τ' : zg_S), f_X6_turns a0 a1 σ = some (r, σ') ∧ f_X7_turns a0 a1 τ = some (r', τ') ∧ lw_R σ' τ' ∧ r = r' := by
  obtain ⟨r, s, r', t, e, e', hv, hs, ht⟩ := z2_all (v_turns h.2.2 a0 a1) (s_X6_turns a0 a1 σ h.1) (s_X7_turns a0 a1 τ h.2.1.1)
  exact ⟨r, s, r', t, e, e', ⟨hs, h.2.1.hi ht.1 ht.2, hv.2⟩, hv.1⟩
theorem sv_set {σ τ : zg_S} (h : lw_R σ τ) (a0 a1 a2 : Int32) : ∃ (r : Int32) (σ' : zg_S) (r' : Int32) (τ' : zg_S), f_X6_set a0 a1 a2 σ = some (r, σ') ∧ f_X7_set a0 a1 a2 τ = some (r', τ') ∧ lw_R σ' τ' ∧ r = r' := by
  obtain ⟨r, s, r', t, e, e', hv, hs, ht⟩ := z2_all (v_set h.2.2 a0 a1 a2) (s_X6_set a0 a1 a2 σ h.1) (s_X7_set a0 a1 a2 τ h.2.1.1)
  exact ⟨r, s, r', t, e, e', ⟨hs, h.2.1.hi ht.1 ht.2, hv.2⟩, hv.1⟩
theorem sv_cloth {σ τ : zg_S} (h : lw_R σ τ) (a0 : Int32) : ∃ (r : Int32) (σ' : zg_S) (r' : Int32) (τ' : zg_S), f_X6_cloth a0 σ = some (r, σ') ∧ f_X7_cloth a0 τ = some (r', τ') ∧ lw_R σ' τ' ∧ r = r' := by
  obtain ⟨r, s, r', t, e, e', hv, hs, ht⟩ := z2_all (v_cloth h.2.2 a0) (s_X6_cloth a0 σ h.1) (s_X7_cloth a0 τ h.2.1.1)
  exact ⟨r, s, r', t, e, e', ⟨by rw [← hs]; exact h.1, by rw [← ht]; exact h.2.1, hv.2⟩, hv.1⟩
theorem sv_rule {σ τ : zg_S} (h : lw_R σ τ) (a0 a1 : Int32) : ∃ (r : Int32) (σ' : zg_S) (r' : Int32) (τ' : zg_S), f_X6_rule a0 a1 σ = some (r, σ') ∧ f_X7_rule a0 a1 τ = some (r', τ') ∧ lw_R σ' τ' ∧ r = r' := by
  obtain ⟨r, s, r', t, e, e', hv, hs, ht⟩ := z2_all (v_rule h.2.2 a0 a1) (s_X6_rule a0 a1 σ h.1) (s_X7_rule a0 a1 τ h.2.1.1)
  exact ⟨r, s, r', t, e, e', ⟨hs, h.2.1.hi ht.1 ht.2, hv.2⟩, hv.1⟩
theorem sv_deal {σ τ : zg_S} (h : lw_R σ τ) (a0 : Int32) : ∃ (r : Int32) (σ' : zg_S) (r' : Int32) (τ' : zg_S), f_X6_deal a0 σ = some (r, σ') ∧ f_X7_deal a0 τ = some (r', τ') ∧ lw_R σ' τ' ∧ r = r' := by
  obtain ⟨r, s, r', t, e, e', hv, hs, ht⟩ := z2_all (v_deal h.2.2 a0) (s_X6_deal a0 σ h.1) (s_X7_deal a0 τ h.2.1.1)
  exact ⟨r, s, r', t, e, e', ⟨hs, h.2.1.hi ht.1 ht.2, hv.2⟩, hv.1⟩
theorem sv_seed {σ τ : zg_S} (h : lw_R σ τ) (a0 : Int32) : ∃ (r : Int32) (σ' : zg_S) (r' : Int32) (τ' : zg_S), f_X6_seed a0 σ = some (r, σ') ∧ f_X7_seed a0 τ = some (r', τ') ∧ lw_R σ' τ' ∧ r = r' := by
  obtain ⟨r, s, r', t, e, e', hv, hs, ht⟩ := z2_all (v_seed h.2.2 a0) (s_X6_seed a0 σ h.1) (s_X7_seed a0 τ h.2.1.1)
  exact ⟨r, s, r', t, e, e', ⟨hs, h.2.1.hi ht.1 ht.2, hv.2⟩, hv.1⟩
theorem sv_hours {σ τ : zg_S} (h : lw_R σ τ) (a0 : Int32) : ∃ (r : Int32) (σ' : zg_S) (r' : Int32) (τ' : zg_S), f_X6_hours a0 σ = some (r, σ') ∧ f_X7_hours a0 τ = some (r', τ') ∧ lw_R σ' τ' ∧ r = r' := by
  obtain ⟨r, s, r', t, e, e', hv, hs, ht⟩ := z2_all (v_hours h.2.2 a0) (s_X6_hours a0 σ h.1) (s_X7_hours a0 τ h.2.1.1 h.2.1.2.1)
  exact ⟨r, s, r', t, e, e', ⟨hs, h.2.1.hi ht.1 ht.2, hv.2⟩, hv.1⟩
theorem sv_book {σ τ : zg_S} (h : lw_R σ τ) (a0 : Int32) : ∃ (r : Int32) (σ' : zg_S) (r' : Int32) (τ' : zg_S), f_X6_book a0 σ = some (r, σ') ∧ f_X7_book a0 τ = some (r', τ') ∧ lw_R σ' τ' ∧ r = r' := by
  obtain ⟨r, s, r', t, e, e', hv, hs, ht⟩ := z2_all (v_book h.2.2 a0) (s_X6_book a0 σ h.1) (s_X7_book a0 τ h.2.1.1)
  exact ⟨r, s, r', t, e, e', ⟨by rw [← hs]; exact h.1, by rw [← ht]; exact h.2.1, hv.2⟩, hv.1⟩
theorem sv_behind {σ τ : zg_S} (h : lw_R σ τ) (a0 a1 : Int32) : ∃ (r : Int32) (σ' : zg_S) (r' : Int32) (τ' : zg_S), f_X6_behind a0 a1 σ = some (r, σ') ∧ f_X7_behind a0 a1 τ = some (r', τ') ∧ lw_R σ' τ' ∧ r = r' := by
  obtain ⟨r, s, r', t, e, e', hv, hs, ht⟩ := z2_all (v_behind h.2.2 a0 a1) (s_X6_behind a0 a1 σ h.1) (m_behind a0 a1 τ h.2.1)
  exact ⟨r, s, r', t, e, e', ⟨hs, ht, hv.2⟩, hv.1⟩
theorem sv_goods {σ τ : zg_S} (h : lw_R σ τ) (a0 a1 : Int32) : ∃ (r : Int32) (σ' : zg_S) (r' : Int32) (τ' : zg_S), f_X6_goods a0 a1 σ = some (r, σ') ∧ f_X7_goods a0 a1 τ = some (r', τ') ∧ lw_R σ' τ' ∧ r = r' := by
  obtain ⟨r, s, r', t, e, e', hv, hs, ht⟩ := z2_all (v_goods h.2.2 a0 a1) (s_X6_goods a0 a1 σ h.1) (m_goods a0 a1 τ h.2.1)
  exact ⟨r, s, r', t, e, e', ⟨hs, ht, hv.2⟩, hv.1⟩
theorem sv_best {σ τ : zg_S} (h : lw_R σ τ) (a0 a1 : Int32) : ∃ (r : Int32) (σ' : zg_S) (r' : Int32) (τ' : zg_S), f_X6_best a0 a1 σ = some (r, σ') ∧ f_X7_best a0 a1 τ = some (r', τ') ∧ lw_R σ' τ' ∧ r = r' := by
  obtain ⟨r, s, r', t, e, e', hv, hs, ht⟩ := z2_all (v_best h.2.2 a0 a1) (s_X6_best a0 a1 σ h.1) (m_best a0 a1 τ h.2.1)
  exact ⟨r, s, r', t, e, e', ⟨hs, ht, hv.2⟩, hv.1⟩
theorem sv_wider {σ τ : zg_S} (h : lw_R σ τ) (a0 a1 : Int32) : ∃ (r : Int32) (σ' : zg_S) (r' : Int32) (τ' : zg_S), f_X6_wider a0 a1 σ = some (r, σ') ∧ f_X7_wider a0 a1 τ = some (r', τ') ∧ lw_R σ' τ' ∧ r = r' := by
  obtain ⟨r, s, r', t, e, e', hv, hs, ht⟩ := z2_all (v_wider h.2.2 a0 a1) (s_X6_wider a0 a1 σ h.1) (m_wider a0 a1 τ h.2.1)
  exact ⟨r, s, r', t, e, e', ⟨hs, ht, hv.2⟩, hv.1⟩
theorem sv_shaded {σ τ : zg_S} (h : lw_R σ τ) (a0 a1 : Int32) : ∃ (r : Int32) (σ' : zg_S) (r' : Int32) (τ' : zg_S), f_X6_shaded a0 a1 σ = some (r, σ') ∧ f_X7_shaded a0 a1 τ = some (r', τ') ∧ lw_R σ' τ' ∧ r = r' := by
  obtain ⟨r, s, r', t, e, e', hv, hs, ht⟩ := z2_all (v_shaded h.2.2 a0 a1) (s_X6_shaded a0 a1 σ h.1) (m_shaded a0 a1 τ h.2.1)
  exact ⟨r, s, r', t, e, e', ⟨hs, ht, hv.2⟩, hv.1⟩
theorem sv_without {σ τ : zg_S} (h : lw_R σ τ) (a0 a1 : Int32) : ∃ (r : Int32) (σ' : zg_S) (r' : Int32) (τ' : zg_S), f_X6_without a0 a1 σ = some (r, σ') ∧ f_X7_without a0 a1 τ = some (r', τ') ∧ lw_R σ' τ' ∧ r = r' := by
  obtain ⟨r, s, r', t, e, e', hv, hs, ht⟩ := z2_all (v_without h.2.2 a0 a1) (s_X6_without a0 a1 σ h.1) (m_without a0 a1 τ h.2.1)
  exact ⟨r, s, r', t, e, e', ⟨hs, ht, hv.2⟩, hv.1⟩
theorem sv_whose {σ τ : zg_S} (h : lw_R σ τ) (a0 a1 a2 : Int32) : ∃ (r : Int32) (σ' : zg_S) (r' : Int32) (τ' : zg_S), f_X6_whose a0 a1 a2 σ = some (r, σ') ∧ f_X7_whose a0 a1 a2 τ = some (r', τ') ∧ lw_R σ' τ' ∧ True := by
  obtain ⟨r, s, r', t, e, e', hv, hs, ht⟩ := z2_all (v_whose h.2.2 h.1 h.2.1 a0 a1 a2) (s_X6_whose a0 a1 a2 σ h.1) (m_whose a0 a1 a2 τ h.2.1)
  exact ⟨r, s, r', t, e, e', ⟨hs, ht, hv⟩, trivial⟩
theorem sv_fee {σ τ : zg_S} (h : lw_R σ τ) : ∃ (r : Int32) (σ' : zg_S) (r' : Int32) (τ' : zg_S), f_X6_fee σ = some (r, σ') ∧ f_X7_fee τ = some (r', τ') ∧ lw_R σ' τ' ∧ r = r' := by
  obtain ⟨r, s, r', t, e, e', hv, hs, ht⟩ := z2_all (v_fee h.2.2) (s_X6_fee σ h.1) (s_X7_fee τ h.2.1.1 h.2.1.2.1)
  exact ⟨r, s, r', t, e, e', ⟨hs, h.2.1.hi ht.1 ht.2, hv.2⟩, hv.1⟩
theorem sv_fine {σ τ : zg_S} (h : lw_R σ τ) (a0 : Int32) : ∃ (r : Int32) (σ' : zg_S) (r' : Int32) (τ' : zg_S), f_X6_fine a0 σ = some (r, σ') ∧ f_X7_fine a0 τ = some (r', τ') ∧ lw_R σ' τ' ∧ r = r' := by
  obtain ⟨r, s, r', t, e, e', hv, hs, ht⟩ := z2_all (v_fine h.2.2 a0) (s_X6_fine a0 σ h.1) (s_X7_fine a0 τ h.2.1.1 h.2.1.2.1)
  exact ⟨r, s, r', t, e, e', ⟨hs, h.2.1.hi ht.1 ht.2, hv.2⟩, hv.1⟩
theorem sv_feed {σ τ : zg_S} (h : lw_R σ τ) (a0 a1 a2 : Int32) : ∃ (r : Int32) (σ' : zg_S) (r' : Int32) (τ' : zg_S), f_X6_feed a0 a1 a2 σ = some (r, σ') ∧ f_X7_feed a0 a1 a2 τ = some (r', τ') ∧ lw_R σ' τ' ∧ r = r' := by
  obtain ⟨r, s, r', t, e, e', hv, hs, ht⟩ := z2_all (v_feed h.2.2 (h.2.1.1 0 14) a0 a1 a2) (s_X6_feed a0 a1 a2 σ h.1) (s_X7_feed a0 a1 a2 τ h.2.1.1)
  exact ⟨r, s, r', t, e, e', ⟨hs, h.2.1.hi ht.1 ht.2, hv.2⟩, hv.1⟩
theorem sv_trim {σ τ : zg_S} (h : lw_R σ τ) (a0 : Int32) : ∃ (r : Int32) (σ' : zg_S) (r' : Int32) (τ' : zg_S), f_X6_trim a0 σ = some (r, σ') ∧ f_X7_trim a0 τ = some (r', τ') ∧ lw_R σ' τ' ∧ r = r' := by
  obtain ⟨r, s, r', t, e, e', hv, hs, ht⟩ := z2_all (v_trim h.2.2 a0) (s_X6_trim a0 σ h.1) (s_X7_trim a0 τ h.2.1.1)
  exact ⟨r, s, r', t, e, e', ⟨hs, h.2.1.hi ht.1 ht.2, hv.2⟩, hv.1⟩
theorem sv_text {σ τ : zg_S} (h : lw_R σ τ) : ∃ (r : Int32) (σ' : zg_S) (r' : Int32) (τ' : zg_S), f_X6_text σ = some (r, σ') ∧ f_X7_text τ = some (r', τ') ∧ lw_R σ' τ' ∧ r = r' := by
  obtain ⟨r, s, r', t, e, e', hv, hs, ht⟩ := z2_all (v_text h.2.2 h.2.1) (s_X6_text σ h.1) (m_text τ h.2.1)
  exact ⟨r, s, r', t, e, e', ⟨hs, ht, hv.2⟩, hv.1⟩
theorem sv_textTold {σ τ : zg_S} (h : lw_R σ τ) (a0 a1 : Int32) : ∃ (r : Int32) (σ' : zg_S) (r' : Int32) (τ' : zg_S), f_X6_textTold a0 a1 σ = some (r, σ') ∧ f_X7_textTold a0 a1 τ = some (r', τ') ∧ lw_R σ' τ' ∧ r = r' := by
  obtain ⟨r, s, r', t, e, e', hv, hs, ht⟩ := z2_all (v_textTold h.2.2 a0 a1) (s_X6_textTold a0 a1 σ h.1) (s_X7_textTold a0 a1 τ h.2.1.1)
  exact ⟨r, s, r', t, e, e', ⟨by rw [← hs]; exact h.1, by rw [← ht]; exact h.2.1, hv.2⟩, hv.1⟩
theorem sv_why {σ τ : zg_S} (h : lw_R σ τ) (a0 : Int32) : ∃ (r : Int32) (σ' : zg_S) (r' : Int32) (τ' : zg_S), f_X6_why a0 σ = some (r, σ') ∧ f_X7_why a0 τ = some (r', τ') ∧ lw_R σ' τ' ∧ r = r' := by
  obtain ⟨r, s, r', t, e, e', hv, hs, ht⟩ := z2_all (v_why h.2.2 a0) (s_X6_why a0 σ h.1) (s_X7_why a0 τ h.2.1.1)
  exact ⟨r, s, r', t, e, e', ⟨by rw [← hs]; exact h.1, by rw [← ht]; exact h.2.1, hv.2⟩, hv.1⟩
theorem sv_sheet {σ τ : zg_S} (h : lw_R σ τ) (a0 a1 a2 : Int32) : ∃ (r : Int32) (σ' : zg_S) (r' : Int32) (τ' : zg_S), f_X6_sheet a0 a1 a2 σ = some (r, σ') ∧ f_X7_sheet a0 a1 a2 τ = some (r', τ') ∧ lw_R σ' τ' ∧ r = r' := by
  obtain ⟨r, s, r', t, e, e', hv, hs, ht⟩ := z2_all (v_sheet h.2.2 a0 a1 a2) (s_X6_sheet a0 a1 a2 σ h.1) (s_X7_sheet a0 a1 a2 τ h.2.1.1)
  exact ⟨r, s, r', t, e, e', ⟨hs, h.2.1.hi ht.1 ht.2, hv.2⟩, hv.1⟩
theorem sv_mark {σ τ : zg_S} (h : lw_R σ τ) (a0 a1 a2 : Int32) : ∃ (r : Int32) (σ' : zg_S) (r' : Int32) (τ' : zg_S), f_X6_mark a0 a1 a2 σ = some (r, σ') ∧ f_X7_mark a0 a1 a2 τ = some (r', τ') ∧ lw_R σ' τ' ∧ r = r' := by
  obtain ⟨r, s, r', t, e, e', hv, hs, ht⟩ := z2_all (v_mark h.2.2 h.2.1.1 a0 a1 a2) (s_X6_mark a0 a1 a2 σ h.1) (s_X7_mark a0 a1 a2 τ h.2.1.1)
  exact ⟨r, s, r', t, e, e', ⟨hs, h.2.1.hi ht.1 ht.2, hv.2⟩, hv.1⟩
theorem sv_pour {σ τ : zg_S} (h : lw_R σ τ) (a0 : Int32) : ∃ (r : Int32) (σ' : zg_S) (r' : Int32) (τ' : zg_S), f_X6_pour a0 σ = some (r, σ') ∧ f_X7_pour a0 τ = some (r', τ') ∧ lw_R σ' τ' ∧ r = r' := by
  obtain ⟨r, s, r', t, e, e', hv, hs, ht⟩ := z2_all (v_pour h.2.2 h.2.1.1 a0) (s_X6_pour a0 σ h.1) (s_X7_pour a0 τ h.2.1.1)
  exact ⟨r, s, r', t, e, e', ⟨hs, h.2.1.hi ht.1 ht.2, hv.2⟩, hv.1⟩
theorem sv_reads {σ τ : zg_S} (h : lw_R σ τ) (a0 : Int32) : ∃ (r : Int32) (σ' : zg_S) (r' : Int32) (τ' : zg_S), f_X6_reads a0 σ = some (r, σ') ∧ f_X7_reads a0 τ = some (r', τ') ∧ lw_R σ' τ' ∧ r = r' := by
  obtain ⟨r, s, r', t, e, e', hv, hs, ht⟩ := z2_all (v_reads h.2.2 h.2.1.1 a0) (s_X6_reads a0 σ h.1) (s_X7_reads a0 τ h.2.1.1 h.2.1.2.1)
  exact ⟨r, s, r', t, e, e', ⟨hs, h.2.1.hi ht.1 ht.2, hv.2⟩, hv.1⟩
theorem sv_copy {σ τ : zg_S} (h : lw_R σ τ) (a0 a1 a2 a3 a4 : Int32) : ∃ (r : Int32) (σ' : zg_S) (r' : Int32) (τ' : zg_S), f_X6_copy a0 a1 a2 a3 a4 σ = some (r, σ') ∧ f_X7_copy a0 a1 a2 a3 a4 τ = some (r', τ') ∧ lw_R σ' τ' ∧ r = r' := by
  obtain ⟨r, s, r', t, e, e', hv, hs, ht⟩ := z2_all (v_copy h.2.2 h.2.1.1 a0 a1 a2 a3 a4) (s_X6_copy a0 a1 a2 a3 a4 σ h.1) (m_copy a0 a1 a2 a3 a4 τ h.2.1)
  exact ⟨r, s, r', t, e, e', ⟨hs, ht, hv.2⟩, hv.1⟩
theorem sv_lay {σ τ : zg_S} (h : lw_R σ τ) (a0 a1 a2 : Int32) : ∃ (r : Int32) (σ' : zg_S) (r' : Int32) (τ' : zg_S), f_X6_lay a0 a1 a2 σ = some (r, σ') ∧ f_X7_lay a0 a1 a2 τ = some (r', τ') ∧ lw_R σ' τ' ∧ r = r' := by
  obtain ⟨r, s, r', t, e, e', hv, hs, ht⟩ := z2_all (v_lay h.2.2 a0 a1 a2) (s_X6_lay a0 a1 a2 σ h.1) (m_lay a0 a1 a2 τ h.2.1)
  exact ⟨r, s, r', t, e, e', ⟨hs, ht, hv.2⟩, hv.1⟩
theorem sv_ask {σ τ : zg_S} (h : lw_R σ τ) (a0 a1 : Int32) : ∃ (r : Int32) (σ' : zg_S) (r' : Int32) (τ' : zg_S), f_X6_ask a0 a1 σ = some (r, σ') ∧ f_X7_ask a0 a1 τ = some (r', τ') ∧ lw_R σ' τ' ∧ r = r' := by
  obtain ⟨r, s, r', t, e, e', hv, hs, ht⟩ := z2_all (v_ask h.2.2 a0 a1) (s_X6_ask a0 a1 σ h.1) (s_X7_ask a0 a1 τ h.2.1.1)
  exact ⟨r, s, r', t, e, e', ⟨by rw [← hs]; exact h.1, by rw [← ht]; exact h.2.1, hv.2⟩, hv.1⟩
theorem sv_item {σ τ : zg_S} (h : lw_R σ τ) (a0 a1 : Int32) : ∃ (r : Int32) (σ' : zg_S) (r' : Int32) (τ' : zg_S), f_X6_item a0 a1 σ = some (r, σ') ∧ f_X7_item a0 a1 τ = some (r', τ') ∧ lw_R σ' τ' ∧ r = r' := by
  obtain ⟨r, s, r', t, e, e', hv, hs, ht⟩ := z2_all (v_item h.2.2 h.2.1.1 a0 a1) (s_X6_item a0 a1 σ h.1) (s_X7_item a0 a1 τ h.2.1.1)
  exact ⟨r, s, r', t, e, e', ⟨by rw [← hs]; exact h.1, by rw [← ht]; exact h.2.1, hv.2⟩, hv.1⟩
theorem sv_rest {σ τ : zg_S} (h : lw_R σ τ) (a0 a1 : Int32) : ∃ (r : Int32) (σ' : zg_S) (r' : Int32) (τ' : zg_S), f_X6_rest a0 a1 σ = some (r, σ') ∧ f_X7_rest a0 a1 τ = some (r', τ') ∧ lw_R σ' τ' ∧ r = r' := by
  obtain ⟨r, s, r', t, e, e', hv, hs, ht⟩ := z2_all (v_rest h.2.2 a0 a1) (s_X6_rest a0 a1 σ h.1) (s_X7_rest a0 a1 τ h.2.1.1)
  exact ⟨r, s, r', t, e, e', ⟨by rw [← hs]; exact h.1, by rw [← ht]; exact h.2.1, hv.2⟩, hv.1⟩
theorem sv_tell {σ τ : zg_S} (h : lw_R σ τ) (a0 : Int32) : ∃ (r : Int32) (σ' : zg_S) (r' : Int32) (τ' : zg_S), f_X6_tell a0 σ = some (r, σ') ∧ f_X7_tell a0 τ = some (r', τ') ∧ lw_R σ' τ' ∧ r = r' := by
  obtain ⟨r, s, r', t, e, e', hv, hs, ht⟩ := z2_all (v_tell h.2.2 h.2.1.1 a0) (s_X6_tell a0 σ h.1) (s_X7_tell a0 τ h.2.1.1)
  exact ⟨r, s, r', t, e, e', ⟨hs, h.2.1.hi ht.1 ht.2, hv.2⟩, hv.1⟩
theorem sv_check {σ τ : zg_S} (h : lw_R σ τ) (a0 : Int32) : ∃ (r : Int32) (σ' : zg_S) (r' : Int32) (τ' : zg_S), f_X6_check a0 σ = some (r, σ') ∧ f_X7_check a0 τ = some (r', τ') ∧ lw_R σ' τ' ∧ r = r' := by
  obtain ⟨r, s, r', t, e, e', hv, hs, ht⟩ := z2_all (v_check h.2.2 (h.2.1.1 0 29) a0) (s_X6_check a0 σ h.1) (m_check a0 τ h.2.1)
  exact ⟨r, s, r', t, e, e', ⟨hs, ht, hv.2⟩, hv.1⟩
theorem sv_keep {σ τ : zg_S} (h : lw_R σ τ) : ∃ (r : Int32) (σ' : zg_S) (r' : Int32) (τ' : zg_S), f_X6_keep σ = some (r, σ') ∧ f_X7_keep τ = some (r', τ') ∧ lw_R σ' τ' ∧ r = r' := by
  obtain ⟨r, s, r', t, e, e', hv, hs, ht⟩ := z2_all (v_keep h.2.2 h.2.1.1) (s_X6_keep σ h.1) (m_keep τ h.2.1)
  exact ⟨r, s, r', t, e, e', ⟨hs, ht, hv.2⟩, hv.1⟩
theorem sv_back {σ τ : zg_S} (h : lw_R σ τ) : ∃ (r : Int32) (σ' : zg_S) (r' : Int32) (τ' : zg_S), f_X6_back σ = some (r, σ') ∧ f_X7_back τ = some (r', τ') ∧ lw_R σ' τ' ∧ r = r' := by
  obtain ⟨r, s, r', t, e, e', hv, hs, ht⟩ := z2_all (v_back h.2.2 h.2.1.1) (s_X6_back σ h.1) (m_back τ h.2.1)
  exact ⟨r, s, r', t, e, e', ⟨hs, ht, hv.2⟩, hv.1⟩
theorem sv_count {σ τ : zg_S} (h : lw_R σ τ) (a0 : Int32) : ∃ (r : Int32) (σ' : zg_S) (r' : Int32) (τ' : zg_S), f_X6_count a0 σ = some (r, σ') ∧ f_X7_count a0 τ = some (r', τ') ∧ lw_R σ' τ' ∧ r = r' := by
  obtain ⟨r, s, r', t, e, e', hv, hs, ht⟩ := z2_all (v_count h.2.2 h.2.1.1 a0) (s_X6_count a0 σ h.1) (m_count a0 τ h.2.1)
  exact ⟨r, s, r', t, e, e', ⟨by rw [← hs]; exact h.1, ht, hv.2⟩, hv.1⟩
