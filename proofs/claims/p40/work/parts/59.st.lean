theorem st_stall {σ τ : zg_S} (h : lw_R σ τ) (a0 a1 a2 : Int32) : ∃ (r : Int32) (σ' : zg_S) (r' : Int32) (τ' : zg_S), f_X6_stall a0 a1 a2 σ = some (r, σ') ∧ f_X7_stall a0 a1 a2 τ = some (r', τ') ∧ lw_R σ' τ' ∧ True := by
  obtain ⟨r, s, r', t, e, e', hR, hq⟩ := sv_stall h a0 a1 a2
  exact ⟨r, s, r', t, e, e', hR, trivial⟩
theorem st_told {σ τ : zg_S} (h : lw_R σ τ) (a0 a1 : Int32) : ∃ (r : Int32) (σ' : zg_S) (r' : Int32) (τ' : zg_S), f_X6_told a0 a1 σ = some (r, σ') ∧ f_X7_told a0 a1 τ = some (r', τ') ∧ lw_R σ' τ' ∧ True := by
  obtain ⟨r, s, r', t, e, e', hR, hq⟩ := sv_told h a0 a1
  exact ⟨r, s, r', t, e, e', hR, trivial⟩
theorem st_as {σ τ : zg_S} (h : lw_R σ τ) (a0 a1 : Int32) : ∃ (r : Int32) (σ' : zg_S) (r' : Int32) (τ' : zg_S), f_X6_as a0 a1 σ = some (r, σ') ∧ f_X7_as a0 a1 τ = some (r', τ') ∧ lw_R σ' τ' ∧ True := by
  obtain ⟨r, s, r', t, e, e', hR, hq⟩ := sv_as h a0 a1
  exact ⟨r, s, r', t, e, e', hR, trivial⟩
theorem st_turns {σ τ : zg_S} (h : lw_R σ τ) (a0 a1 : Int32) : ∃ (r : Int32) (σ' : zg_S) (r' : Int32) (τ' : zg_S), f_X6_turns a0 a1 σ = some (r, σ') ∧ f_X7_turns a0 a1 τ = some (r', τ') ∧ lw_R σ' τ' ∧ True := by
  obtain ⟨r, s, r', t, e, e', hR, hq⟩ := sv_turns h a0 a1
  exact ⟨r, s, r', t, e, e', hR, trivial⟩
theorem st_set {σ τ : zg_S} (h : lw_R σ τ) (a0 a1 a2 : Int32) : ∃ (r : Int32) (σ' : zg_S) (r' : Int32) (τ' : zg_S), f_X6_set a0 a1 a2 σ = some (r, σ') ∧ f_X7_set a0 a1 a2 τ = some (r', τ') ∧ lw_R σ' τ' ∧ True := by
  obtain ⟨r, s, r', t, e, e', hR, hq⟩ := sv_set h a0 a1 a2
  exact ⟨r, s, r', t, e, e', hR, trivial⟩
theorem st_cloth {σ τ : zg_S} (h : lw_R σ τ) (a0 : Int32) : ∃ (r : Int32) (σ' : zg_S) (r' : Int32) (τ' : zg_S), f_X6_cloth a0 σ = some (r, σ') ∧ f_X7_cloth a0 τ = some (r', τ') ∧ lw_R σ' τ' ∧ True := by
  obtain ⟨r, s, r', t, e, e', hR, hq⟩ := sv_cloth h a0
  exact ⟨r, s, r', t, e, e', hR, trivial⟩
theorem st_rule {σ τ : zg_S} (h : lw_R σ τ) (a0 a1 : Int32) : ∃ (r : Int32) (σ' : zg_S) (r' : Int32) (τ' : zg_S), f_X6_rule a0 a1 σ = some (r, σ') ∧ f_X7_rule a0 a1 τ = some (r', τ') ∧ lw_R σ' τ' ∧ True := by
  obtain ⟨r, s, r', t, e, e', hR, hq⟩ := sv_rule h a0 a1
  exact ⟨r, s, r', t, e, e', hR, trivial⟩
theorem st_deal {σ τ : zg_S} (h : lw_R σ τ) (a0 : Int32) : ∃ (r : Int32) (σ' : zg_S) (r' : Int32) (τ' : zg_S), f_X6_deal a0 σ = some (r, σ') ∧ f_X7_deal a0 τ = some (r', τ') ∧ lw_R σ' τ' ∧ True := by
  obtain ⟨r, s, r', t, e, e', hR, hq⟩ := sv_deal h a0
  exact ⟨r, s, r', t, e, e', hR, trivial⟩
theorem st_seed {σ τ : zg_S} (h : lw_R σ τ) (a0 : Int32) : ∃ (r : Int32) (σ' : zg_S) (r' : Int32) (τ' : zg_S), f_X6_seed a0 σ = some (r, σ') ∧ f_X7_seed a0 τ = some (r', τ') ∧ lw_R σ' τ' ∧ True := by
  obtain ⟨r, s, r', t, e, e', hR, hq⟩ := sv_seed h a0
  exact ⟨r, s, r', t, e, e', hR, trivial⟩
theorem st_hours {σ τ : zg_S} (h : lw_R σ τ) (a0 : Int32) : ∃ (r : Int32) (σ' : zg_S) (r' : Int32) (τ' : zg_S), f_X6_hours a0 σ = some (r, σ') ∧ f_X7_hours a0 τ = some (r', τ') ∧ lw_R σ' τ' ∧ True := by
  obtain ⟨r, s, r', t, e, e', hR, hq⟩ := sv_hours h a0
  exact ⟨r, s, r', t, e, e', hR, trivial⟩
theorem st_book {σ τ : zg_S} (h : lw_R σ τ) (a0 : Int32) : ∃ (r : Int32) (σ' : zg_S) (r' : Int32) (τ' : zg_S), f_X6_book a0 σ = some (r, σ') ∧ f_X7_book a0 τ = some (r', τ') ∧ lw_R σ' τ' ∧ True := by
  obtain ⟨r, s, r', t, e, e', hR, hq⟩ := sv_book h a0
  exact ⟨r, s, r', t, e, e', hR, trivial⟩
theorem st_behind {σ τ : zg_S} (h : lw_R σ τ) (a0 a1 : Int32) : ∃ (r : Int32) (σ' : zg_S) (r' : Int32) (τ' : zg_S), f_X6_behind a0 a1 σ = some (r, σ') ∧ f_X7_behind a0 a1 τ = some (r', τ') ∧ lw_R σ' τ' ∧ True := by
  obtain ⟨r, s, r', t, e, e', hR, hq⟩ := sv_behind h a0 a1
  exact ⟨r, s, r', t, e, e', hR, trivial⟩
theorem st_goods {σ τ : zg_S} (h : lw_R σ τ) (a0 a1 : Int32) : ∃ (r : Int32) (σ' : zg_S) (r' : Int32) (τ' : zg_S), f_X6_goods a0 a1 σ = some (r, σ') ∧ f_X7_goods a0 a1 τ = some (r', τ') ∧ lw_R σ' τ' ∧ True := by
  obtain ⟨r, s, r', t, e, e', hR, hq⟩ := sv_goods h a0 a1
  exact ⟨r, s, r', t, e, e', hR, trivial⟩
theorem st_best {σ τ : zg_S} (h : lw_R σ τ) (a0 a1 : Int32) : ∃ (r : Int32) (σ' : zg_S) (r' : Int32) (τ' : zg_S), f_X6_best a0 a1 σ = some (r, σ') ∧ f_X7_best a0 a1 τ = some (r', τ') ∧ lw_R σ' τ' ∧ True := by
  obtain ⟨r, s, r', t, e, e', hR, hq⟩ := sv_best h a0 a1
  exact ⟨r, s, r', t, e, e', hR, trivial⟩
theorem st_wider {σ τ : zg_S} (h : lw_R σ τ) (a0 a1 : Int32) : ∃ (r : Int32) (σ' : zg_S) (r' : Int32) (τ' : zg_S), f_X6_wider a0 a1 σ = some (r, σ') ∧ f_X7_wider a0 a1 τ = some (r', τ') ∧ lw_R σ' τ' ∧ True := by
  obtain ⟨r, s, r', t, e, e', hR, hq⟩ := sv_wider h a0 a1
  exact ⟨r, s, r', t, e, e', hR, trivial⟩
theorem st_shaded {σ τ : zg_S} (h : lw_R σ τ) (a0 a1 : Int32) : ∃ (r : Int32) (σ' : zg_S) (r' : Int32) (τ' : zg_S), f_X6_shaded a0 a1 σ = some (r, σ') ∧ f_X7_shaded a0 a1 τ = some (r', τ') ∧ lw_R σ' τ' ∧ True := by
  obtain ⟨r, s, r', t, e, e', hR, hq⟩ := sv_shaded h a0 a1
  exact ⟨r, s, r', t, e, e', hR, trivial⟩
theorem st_without {σ τ : zg_S} (h : lw_R σ τ) (a0 a1 : Int32) : ∃ (r : Int32) (σ' : zg_S) (r' : Int32) (τ' : zg_S), f_X6_without a0 a1 σ = some (r, σ') ∧ f_X7_without a0 a1 τ = some (r', τ') ∧ lw_R σ' τ' ∧ True := by
  obtain ⟨r, s, r', t, e, e', hR, hq⟩ := sv_without h a0 a1
  exact ⟨r, s, r', t, e, e', hR, trivial⟩
theorem st_whose {σ τ : zg_S} (h : lw_R σ τ) (a0 a1 a2 : Int32) : ∃ (r : Int32) (σ' : zg_S) (r' : Int32) (τ' : zg_S), f_X6_whose a0 a1 a2 σ = some (r, σ') ∧ f_X7_whose a0 a1 a2 τ = some (r', τ') ∧ lw_R σ' τ' ∧ True := by
  obtain ⟨r, s, r', t, e, e', hR, hq⟩ := sv_whose h a0 a1 a2
  exact ⟨r, s, r', t, e, e', hR, trivial⟩
theorem st_fee {σ τ : zg_S} (h : lw_R σ τ) : ∃ (r : Int32) (σ' : zg_S) (r' : Int32) (τ' : zg_S), f_X6_fee σ = some (r, σ') ∧ f_X7_fee τ = some (r', τ') ∧ lw_R σ' τ' ∧ True := by
  obtain ⟨r, s, r', t, e, e', hR, hq⟩ := sv_fee h
  exact ⟨r, s, r', t, e, e', hR, trivial⟩
theorem st_fine {σ τ : zg_S} (h : lw_R σ τ) (a0 : Int32) : ∃ (r : Int32) (σ' : zg_S) (r' : Int32) (τ' : zg_S), f_X6_fine a0 σ = some (r, σ') ∧ f_X7_fine a0 τ = some (r', τ') ∧ lw_R σ' τ' ∧ True := by
  obtain ⟨r, s, r', t, e, e', hR, hq⟩ := sv_fine h a0
  exact ⟨r, s, r', t, e, e', hR, trivial⟩
theorem st_feed {σ τ : zg_S} (h : lw_R σ τ) (a0 a1 a2 : Int32) : ∃ (r : Int32) (σ' : zg_S) (r' : Int32) (τ' : zg_S), f_X6_feed a0 a1 a2 σ = some (r, σ') ∧ f_X7_feed a0 a1 a2 τ = some (r', τ') ∧ lw_R σ' τ' ∧ True := by
  obtain ⟨r, s, r', t, e, e', hR, hq⟩ := sv_feed h a0 a1 a2
  exact ⟨r, s, r', t, e, e', hR, trivial⟩
theorem st_trim {σ τ : zg_S} (h : lw_R σ τ) (a0 : Int32) : ∃ (r : Int32) (σ' : zg_S) (r' : Int32) (τ' : zg_S), f_X6_trim a0 σ = some (r, σ') ∧ f_X7_trim a0 τ = some (r', τ') ∧ lw_R σ' τ' ∧ True := by
  obtain ⟨r, s, r', t, e, e', hR, hq⟩ := sv_trim h a0
  exact ⟨r, s, r', t, e, e', hR, trivial⟩
theorem st_text {σ τ : zg_S} (h : lw_R σ τ) : ∃ (r : Int32) (σ' : zg_S) (r' : Int32) (τ' : zg_S), f_X6_text σ = some (r, σ') ∧ f_X7_text τ = some (r', τ') ∧ lw_R σ' τ' ∧ True := by
  obtain ⟨r, s, r', t, e, e', hR, hq⟩ := sv_text h
  exact ⟨r, s, r', t, e, e', hR, trivial⟩
theorem st_textTold {σ τ : zg_S} (h : lw_R σ τ) (a0 a1 : Int32) : ∃ (r : Int32) (σ' : zg_S) (r' : Int32) (τ' : zg_S), f_X6_textTold a0 a1 σ = some (r, σ') ∧ f_X7_textTold a0 a1 τ = some (r', τ') ∧ lw_R σ' τ' ∧ True := by
  obtain ⟨r, s, r', t, e, e', hR, hq⟩ := sv_textTold h a0 a1
  exact ⟨r, s, r', t, e, e', hR, trivial⟩
theorem st_why {σ τ : zg_S} (h : lw_R σ τ) (a0 : Int32) : ∃ (r : Int32) (σ' : zg_S) (r' : Int32) (τ' : zg_S), f_X6_why a0 σ = some (r, σ') ∧ f_X7_why a0 τ = some (r', τ') ∧ lw_R σ' τ' ∧ True := by
  obtain ⟨r, s, r', t, e, e', hR, hq⟩ := sv_why h a0
  exact ⟨r, s, r', t, e, e', hR, trivial⟩
theorem st_sheet {σ τ : zg_S} (h : lw_R σ τ) (a0 a1 a2 : Int32) : ∃ (r : Int32) (σ' : zg_S) (r' : Int32) (τ' : zg_S), f_X6_sheet a0 a1 a2 σ = some (r, σ') ∧ f_X7_sheet a0 a1 a2 τ = some (r', τ') ∧ lw_R σ' τ' ∧ True := by
  obtain ⟨r, s, r', t, e, e', hR, hq⟩ := sv_sheet h a0 a1 a2
  exact ⟨r, s, r', t, e, e', hR, trivial⟩
theorem st_mark {σ τ : zg_S} (h : lw_R σ τ) (a0 a1 a2 : Int32) : ∃ (r : Int32) (σ' : zg_S) (r' : Int32) (τ' : zg_S), f_X6_mark a0 a1 a2 σ = some (r, σ') ∧ f_X7_mark a0 a1 a2 τ = some (r', τ') ∧ lw_R σ' τ' ∧ True := by
  obtain ⟨r, s, r', t, e, e', hR, hq⟩ := sv_mark h a0 a1 a2
  exact ⟨r, s, r', t, e, e', hR, trivial⟩
theorem st_pour {σ τ : zg_S} (h : lw_R σ τ) (a0 : Int32) : ∃ (r : Int32) (σ' : zg_S) (r' : Int32) (τ' : zg_S), f_X6_pour a0 σ = some (r, σ') ∧ f_X7_pour a0 τ = some (r', τ') ∧ lw_R σ' τ' ∧ True := by
  obtain ⟨r, s, r', t, e, e', hR, hq⟩ := sv_pour h a0
  exact ⟨r, s, r', t, e, e', hR, trivial⟩
theorem st_reads {σ τ : zg_S} (h : lw_R σ τ) (a0 : Int32) : ∃ (r : Int32) (σ' : zg_S) (r' : Int32) (τ' : zg_S), f_X6_reads a0 σ = some (r, σ') ∧ f_X7_reads a0 τ = some (r', τ') ∧ lw_R σ' τ' ∧ True := by
  obtain ⟨r, s, r', t, e, e', hR, hq⟩ := sv_reads h a0
  exact ⟨r, s, r', t, e, e', hR, trivial⟩
theorem st_copy {σ τ : zg_S} (h : lw_R σ τ) (a0 a1 a2 a3 a4 : Int32) : ∃ (r : Int32) (σ' : zg_S) (r' : Int32) (τ' : zg_S), f_X6_copy a0 a1 a2 a3 a4 σ = some (r, σ') ∧ f_X7_copy a0 a1 a2 a3 a4 τ = some (r', τ') ∧ lw_R σ' τ' ∧ True := by
  obtain ⟨r, s, r', t, e, e', hR, hq⟩ := sv_copy h a0 a1 a2 a3 a4
  exact ⟨r, s, r', t, e, e', hR, trivial⟩
theorem st_lay {σ τ : zg_S} (h : lw_R σ τ) (a0 a1 a2 : Int32) : ∃ (r : Int32) (σ' : zg_S) (r' : Int32) (τ' : zg_S), f_X6_lay a0 a1 a2 σ = some (r, σ') ∧ f_X7_lay a0 a1 a2 τ = some (r', τ') ∧ lw_R σ' τ' ∧ True := by
  obtain ⟨r, s, r', t, e, e', hR, hq⟩ := sv_lay h a0 a1 a2
  exact ⟨r, s, r', t, e, e', hR, trivial⟩
theorem st_ask {σ τ : zg_S} (h : lw_R σ τ) (a0 a1 : Int32) : ∃ (r : Int32) (σ' : zg_S) (r' : Int32) (τ' : zg_S), f_X6_ask a0 a1 σ = some (r, σ') ∧ f_X7_ask a0 a1 τ = some (r', τ') ∧ lw_R σ' τ' ∧ True := by
  obtain ⟨r, s, r', t, e, e', hR, hq⟩ := sv_ask h a0 a1
  exact ⟨r, s, r', t, e, e', hR, trivial⟩
theorem st_item {σ τ : zg_S} (h : lw_R σ τ) (a0 a1 : Int32) : ∃ (r : Int32) (σ' : zg_S) (r' : Int32) (τ' : zg_S), f_X6_item a0 a1 σ = some (r, σ') ∧ f_X7_item a0 a1 τ = some (r', τ') ∧ lw_R σ' τ' ∧ True := by
  obtain ⟨r, s, r', t, e, e', hR, hq⟩ := sv_item h a0 a1
  exact ⟨r, s, r', t, e, e', hR, trivial⟩
theorem st_rest {σ τ : zg_S} (h : lw_R σ τ) (a0 a1 : Int32) : ∃ (r : Int32) (σ' : zg_S) (r' : Int32) (τ' : zg_S), f_X6_rest a0 a1 σ = some (r, σ') ∧ f_X7_rest a0 a1 τ = some (r', τ') ∧ lw_R σ' τ' ∧ True := by
  obtain ⟨r, s, r', t, e, e', hR, hq⟩ := sv_rest h a0 a1
  exact ⟨r, s, r', t, e, e', hR, trivial⟩
theorem st_tell {σ τ : zg_S} (h : lw_R σ τ) (a0 : Int32) : ∃ (r : Int32) (σ' : zg_S) (r' : Int32) (τ' : zg_S), f_X6_tell a0 σ = some (r, σ') ∧ f_X7_tell a0 τ = some (r', τ') ∧ lw_R σ' τ' ∧ True := by
  obtain ⟨r, s, r', t, e, e', hR, hq⟩ := sv_tell h a0
  exact ⟨r, s, r', t, e, e', hR, trivial⟩
theorem st_check {σ τ : zg_S} (h : lw_R σ τ) (a0 : Int32) : ∃ (r : Int32) (σ' : zg_S) (r' : Int32) (τ' : zg_S), f_X6_check a0 σ = some (r, σ') ∧ f_X7_check a0 τ = some (r', τ') ∧ lw_R σ' τ' ∧ True := by
  obtain ⟨r, s, r', t, e, e', hR, hq⟩ := sv_check h a0
  exact ⟨r, s, r', t, e, e', hR, trivial⟩
theorem st_keep {σ τ : zg_S} (h : lw_R σ τ) : ∃ (r : Int32) (σ' : zg_S) (r' : Int32) (τ' : zg_S), f_X6_keep σ = some (r, σ') ∧ f_X7_keep τ = some (r', τ') ∧ lw_R σ' τ' ∧ True := by
  obtain ⟨r, s, r', t, e, e', hR, hq⟩ := sv_keep h
  exact ⟨r, s, r', t, e, e', hR, trivial⟩
theorem st_back {σ τ : zg_S} (h : lw_R σ τ) : ∃ (r : Int32) (σ' : zg_S) (r' : Int32) (τ' : zg_S), f_X6_back σ = some (r, σ') ∧ f_X7_back τ = some (r', τ') ∧ lw_R σ' τ' ∧ True := by
  obtain ⟨r, s, r', t, e, e', hR, hq⟩ := sv_back h
  exact ⟨r, s, r', t, e, e', hR, trivial⟩
theorem st_count {σ τ : zg_S} (h : lw_R σ τ) (a0 : Int32) : ∃ (r : Int32) (σ' : zg_S) (r' : Int32) (τ' : zg_S), f_X6_count a0 σ = some (r, σ') ∧ f_X7_count a0 τ = some (r', τ') ∧ lw_R σ' τ' ∧ r = r' := by
  obtain ⟨r, s, r', t, e, e', hR, hq⟩ := sv_count h a0
  exact ⟨r, s, r', t, e, e', hR, hq⟩
