/-- what the reference keeps: its bounds, its texts well formed, the image's too -/
def IM (τ : zg_S) : Prop := IMc τ ∧ WF (τ 1) ∧ (¬ τ 0 3 = 0 → WF (τ 2))
theorem IM.hi {σ s : zg_S} (h : IM σ) (hs : IMc s) (hh : hi σ s) : IM s := ⟨hs, h.2.1.hi hh, fun hn => by rw [hh.2.2.1]; exact h.2.2 (by rw [← hh.2.2.2.2.2]; exact hn)⟩
theorem WF_eq2 {f g : Nat → Int32} (hN : (f 1).toInt ≤ 14) (h : ∀ i, i < 2847 → g i = f i) (w : WF f) : WF g := by
  intro t ht
  rw [h 1 (by omega)] at ht
  exact wfT_eq (fun j hj => h _ (by omega)) (w t ht)
theorem m_back (σ : zg_S) (h : IM σ) : zk (f_X7_back σ) (fun _ s => IM s) := by
  obtain ⟨hc, w1, w2⟩ := h
  unfold f_X7_back
  refine zk_ite (fun _ => zk_some ⟨hc, w1, w2⟩) (fun hn => ?_)
  refine zk_call (s_X7_setAside 2 1 σ hc (by decide) (by decide) (by decide) mc_2_1) (fun r s hp => ?_)
  obtain ⟨hs, ha, hb, hp⟩ := hp
  refine zk_some ⟨hs, WF_eq2 (hc 2 1).2 ha (w2 hn), fun _ => ?_⟩
  rw [hp 2 (by decide)]
  exact w2 hn
theorem m_keep (σ : zg_S) (h : IM σ) : zk (f_X7_keep σ) (fun _ s => IM s) := by
  obtain ⟨hc, w1, w2⟩ := h
  unfold f_X7_keep
  refine zk_let (fun s1 q1 => ?_)
  have h1 : IMc s1 := by rw [q1]; exact IMc.up hc (zTs 1) trivial
  have r1 : s1 1 = σ 1 := by rw [q1]; exact zup_ne rfl
  refine zk_call (s_X7_setAside 1 2 s1 h1 (by decide) (by decide) (by decide) mc_1_2) (fun r s hp => ?_)
  obtain ⟨hs, ha, hb, hp⟩ := hp
  exact zk_some ⟨hs, by rw [hp 1 (by decide), r1]; exact w1, fun _ => WF_eq2 (h1 1 1).2 ha (by rw [r1]; exact w1)⟩
