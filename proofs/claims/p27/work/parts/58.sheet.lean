theorem zk_and {o : Option (Int32 × zg_S)} {P Q : Int32 → zg_S → Prop} (h1 : zk o P) (h2 : zk o Q) : zk o (fun r s => P r s ∧ Q r s) := by
  obtain ⟨r, s, e, hp⟩ := h1
  obtain ⟨r', s', e', hq⟩ := h2
  rw [e] at e'
  injection e' with e'
  injection e' with e1 e2
  subst e1
  subst e2
  exact ⟨r, s, e, hp, hq⟩
theorem mz (p k : Nat) : mconI p k 0 := by
  unfold mconI
  split <;> (try split) <;> first | trivial | omega
theorem xz (kd k : Nat) : xconI kd k 0 := by
  unfold xconI
  split <;> first | trivial | omega
theorem IX0 (fd : Nat → Nat → Int32) : IX (x0 fd) := by
  intro p k
  unfold xcon x0
  generalize xkd p = kd
  match kd with
  | 0 =>
    match k with
    | 0 => trivial
    | 1 => trivial
    | 2 => trivial
    | 3 => exact xz 0 3
    | 4 => exact xz 0 4
    | k + 5 => trivial
  | 1 => exact xz 1 k
  | 2 =>
    match k with
    | 0 => trivial
    | k + 1 => exact xz 2 (k + 1)
  | 3 => exact xz 3 k
  | 4 => exact xz 4 k
  | 5 => exact xz 5 k
  | 6 => exact xz 6 k
  | 7 => exact xz 7 k
  | 8 => trivial
  | kd + 9 => trivial
theorem IM0 {fm : Nat → Nat → Int32} (h : ini2 fm) : IM (m0 fm) := by
  have h0 := h.1
  have h1 := h.2.1
  refine ⟨fun p k => ?_, fun t ht => ?_, fun hn => absurd rfl hn⟩
  · match p with
    | 0 => exact mz 0 k
    | 1 =>
      match k with
      | 0 => show mconI 1 0 (fm 1 0).toInt; rw [h0]; exact mz 1 0
      | 1 => show mconI 1 1 (fm 1 1).toInt; rw [h1]; exact mz 1 1
      | k + 2 => trivial
    | 2 => exact mz 2 k
    | 3 => exact mz 3 k
    | 4 => trivial
    | p + 5 => exact mz (p + 5) k
  · have e : (m0 fm 1 1).toInt = 0 := by show (fm 1 1).toInt = 0; rw [h1]; exact zt_0
    omega
def lw_R (σ τ : zg_S) : Prop := IX σ ∧ IM τ
theorem lw_R0 {fd fm : Nat → Nat → Int32} (_h1 : ini1 fd) (h2 : ini2 fm) : lw_R (x0 fd) (m0 fm) := ⟨IX0 fd, IM0 h2⟩
/-! sheet: what both answer -/
def shA (a1 a2 a3 : Int32) : Int32 := if 0 ≤ a1.toInt ∧ a1.toInt ≤ 3 then (if -1 ≤ a2.toInt ∧ a2.toInt ≤ 1 then (if a2.toInt = -1 then 0 else if a3.toInt ≤ 24 then (if 0 ≤ a3.toInt then a3 else -1000000014) else -1000000001) else -1000000001) else -1000000001
theorem x_within (a b c : Int32) (σ : zg_S) : zk (f_X6_within a b c σ) (fun r s => σ = s ∧ ((r = 0 ∧ ¬ (b.toInt ≤ a.toInt ∧ a.toInt ≤ c.toInt)) ∨ (r = 1 ∧ b.toInt ≤ a.toInt ∧ a.toInt ≤ c.toInt))) := by
  unfold f_X6_within
  refine zk_ite (fun h => zk_some ⟨rfl, Or.inl ⟨rfl, fun z => by have := zlt h; omega⟩⟩) (fun h => zk_ite (fun h2 => zk_some ⟨rfl, Or.inl ⟨rfl, fun z => by have := zlt h2; omega⟩⟩) (fun h2 => zk_some ⟨rfl, Or.inr ⟨rfl, znlt h, znlt h2⟩⟩))
theorem x_isSheet6 (a : Int32) (σ : zg_S) : zk (f_X6_isSheet a σ) (fun r s => σ = s ∧ ((r = 0 ∧ ¬ (0 ≤ a.toInt ∧ a.toInt ≤ 3)) ∨ (r = 1 ∧ 0 ≤ a.toInt ∧ a.toInt ≤ 3))) := by
  have e0 := zt_0
  have e3 := zt_3
  unfold f_X6_isSheet
  refine zk_call (x_within a 0 3 σ) (fun r s hp => ?_)
  obtain ⟨rfl, hr⟩ := hp
  rw [e0, e3] at hr
  exact zk_ck (hr.imp And.left And.left) (zk_some ⟨rfl, hr⟩)
theorem x_isSheet7 (a : Int32) (σ : zg_S) : zk (f_X7_isSheet a σ) (fun r s => σ = s ∧ ((r = 0 ∧ ¬ (0 ≤ a.toInt ∧ a.toInt ≤ 3)) ∨ (r = 1 ∧ 0 ≤ a.toInt ∧ a.toInt ≤ 3))) := by
  have e0 := zt_0
  have e3 := zt_3
  unfold f_X7_isSheet
  refine zk_call (x_isIn a 0 3 σ) (fun r s hp => ?_)
  obtain ⟨rfl, hr⟩ := hp
  rw [e0, e3] at hr
  exact zk_ck (hr.imp And.left And.left) (zk_some ⟨rfl, hr⟩)
theorem r_sheet6 (a1 a2 a3 : Int32) (σ : zg_S) (hσ : IX σ) : zk (f_X6_sheet a1 a2 a3 σ) (fun r _ => r = shA a1 a2 a3) := by
  have em := zt_m1
  have e1 := zt_1
  have e24 := zt_24
  have e0 := zt_0
  unfold f_X6_sheet
  refine zk_call (x_isSheet6 a1 σ) (fun r s hp => ?_)
  obtain ⟨rfl, hr⟩ := hp
  refine zk_ite (fun h => ?_) (fun h => ?_)
  · obtain ⟨-, hn⟩ := hr.resolve_right (fun z => absurd (z.1.symm.trans h) (by decide))
    exact zk_some (by unfold shA; rw [if_neg hn])
  obtain ⟨-, h1, h2⟩ := hr.resolve_left (fun z => h z.1)
  refine zk_call (x_within a2 (-1) 1 σ) (fun r2 s hp => ?_)
  obtain ⟨rfl, hr2⟩ := hp
  rw [em, e1] at hr2
  refine zk_ite (fun h => ?_) (fun h => ?_)
  · obtain ⟨-, hn⟩ := hr2.resolve_right (fun z => absurd (z.1.symm.trans h) (by decide))
    exact zk_some (by unfold shA; rw [if_pos (show 0 ≤ a1.toInt ∧ a1.toInt ≤ 3 from ⟨h1, h2⟩), if_neg hn])
  obtain ⟨-, h3, h4⟩ := hr2.resolve_left (fun z => h z.1)
  have z1 : zin a1 4 = true := zin_mk h1 (by omega)
  have eA : shA a1 a2 a3 = if a2.toInt = -1 then 0 else if a3.toInt ≤ 24 then (if 0 ≤ a3.toInt then a3 else -1000000014) else -1000000001 := by unfold shA; rw [if_pos (show 0 ≤ a1.toInt ∧ a1.toInt ≤ 3 from ⟨h1, h2⟩), if_pos (show -1 ≤ a2.toInt ∧ a2.toInt ≤ 1 from ⟨h3, h4⟩)]
  rw [eA]
  refine zk_ite (fun h5 => ?_) (fun h5 => ?_)
  · have g5 := zeq h5
    refine zk_in z1 ?_
    exact zk_call (s_X2_become (53 + 2 * (Int32.toNatClampNeg a1)) (-1) 0 σ hσ (xH (zIn z1).2)) (fun _ _ _ => zk_some (by rw [if_pos (by omega)]))
  have g5 := zne h5
  refine zk_ite (fun h6 => ?_) (fun h6 => ?_)
  · have g6 := zle h6
    refine zk_ite (fun h7 => ?_) (fun h7 => ?_)
    · have g7 := zle h7
      refine zk_in z1 ?_
      exact zk_call (s_X2_become (53 + 2 * (Int32.toNatClampNeg a1)) a2 a3 σ hσ (xH (zIn z1).2)) (fun _ _ _ => zk_some (by rw [if_neg (by omega), if_pos (by omega), if_pos (by omega)]))
    · have g7 := znle h7
      exact zk_some (by rw [if_neg (by omega), if_pos (by omega), if_neg (by omega)])
  · have g6 := znle h6
    exact zk_some (by rw [if_neg (by omega), if_neg (by omega)])
theorem sh69' (a1 a2 a3 v : Int32) (σ : zg_S) (g1 : 0 ≤ a1.toInt) (g2 : a1.toInt ≤ 3) (hv : σ 5 a1.toNatClampNeg = v) : zk (L_X7_sheet_69 a1 a2 a3 zfu 0 σ) (fun r _ => r = v) := by
  have e0 := zt_0
  have e1 := zt_1
  have e24 := zt_24
  unfold L_X7_sheet_69
  refine zl_I (fun (x : Int32) (s : zg_S) => s 5 a1.toNatClampNeg = v ∧ 0 ≤ x.toInt ∧ x.toInt ≤ 24) (fun (x : Int32) (_ : zg_S) => (24 - x.toInt).toNat) ?_ zfu _ _ ⟨hv, by omega, by omega⟩ (by unfold zfu; omega)
  intro rec x s hI ih
  obtain ⟨hs, i1, i2⟩ := hI
  unfold B_X7_sheet_69
  refine zk_ite (fun _ => zk_in (zin_mk g1 (by omega)) (zk_some hs)) (fun hl => ?_)
  have g := znle hl
  refine zk_in (zin_mkT (zTadd (zTmul (zTl zt_24) (zTs a1) (by omega) (by omega)) (zTs x) (by omega) (by omega)) (by omega) (by omega)) ?_
  refine zk_let (fun u q => ?_)
  have ex := zTe (zTadd (zTs x) (zTl zt_1) (by omega) (by omega))
  exact ih (x + 1) u ⟨by rw [q]; exact (congrFun (zup_ne rfl) _).trans hs, by rw [ex]; omega, by rw [ex]; omega⟩ (by show (24 - (x + 1).toInt).toNat < (24 - x.toInt).toNat; rw [ex]; omega)
theorem r_sheet7 (a1 a2 a3 : Int32) (σ : zg_S) : zk (f_X7_sheet a1 a2 a3 σ) (fun r _ => r = shA a1 a2 a3) := by
  have em := zt_m1
  have e1 := zt_1
  have e24 := zt_24
  have e0 := zt_0
  unfold f_X7_sheet
  refine zk_call (x_isSheet7 a1 σ) (fun r s hp => ?_)
  obtain ⟨rfl, hr⟩ := hp
  refine zk_ite (fun h => ?_) (fun h => ?_)
  · obtain ⟨-, hn⟩ := hr.resolve_right (fun z => absurd (z.1.symm.trans h) (by decide))
    exact zk_some (by unfold shA; rw [if_neg hn])
  obtain ⟨-, h1, h2⟩ := hr.resolve_left (fun z => h z.1)
  refine zk_call (x_isIn a2 (-1) 1 σ) (fun r2 s hp => ?_)
  obtain ⟨rfl, hr2⟩ := hp
  rw [em, e1] at hr2
  refine zk_ite (fun h => ?_) (fun h => ?_)
  · obtain ⟨-, hn⟩ := hr2.resolve_right (fun z => absurd (z.1.symm.trans h) (by decide))
    exact zk_some (by unfold shA; rw [if_pos (show 0 ≤ a1.toInt ∧ a1.toInt ≤ 3 from ⟨h1, h2⟩), if_neg hn])
  obtain ⟨-, h3, h4⟩ := hr2.resolve_left (fun z => h z.1)
  have z1 : zin a1 4 = true := zin_mk h1 (by omega)
  have eA : shA a1 a2 a3 = if a2.toInt = -1 then 0 else if a3.toInt ≤ 24 then (if 0 ≤ a3.toInt then a3 else -1000000014) else -1000000001 := by unfold shA; rw [if_pos (show 0 ≤ a1.toInt ∧ a1.toInt ≤ 3 from ⟨h1, h2⟩), if_pos (show -1 ≤ a2.toInt ∧ a2.toInt ≤ 1 from ⟨h3, h4⟩)]
  have l65 : ∀ (y0 : Int32) (t : zg_S), zk (B_X7_sheet_65 a1 a2 a3 y0 a1 t) (fun r _ => r = y0) := fun y0 t => by
    unfold B_X7_sheet_65
    refine zk_in z1 ?_
    refine zk_let (fun u q => ?_)
    exact sh69' a1 a2 a3 y0 u h1 h2 (by rw [q]; exact zgot)
  have l44 : ∀ v : Int32, v = (if 0 ≤ a2.toInt then a3 else 0) → zk (B_X7_sheet_44 a1 a2 a3 σ) (fun r _ => r = v) := fun v hv => by
    unfold B_X7_sheet_44
    refine zk_in z1 ?_
    refine zk_let (fun u _ => ?_)
    refine zk_ite (fun h5 => ?_) (fun h5 => ?_)
    · have g := zle h5
      rw [if_pos (by omega)] at hv
      rw [hv]
      exact l65 a3 u
    · have g := znle h5
      rw [if_neg (by omega)] at hv
      rw [hv]
      exact l65 0 u
  rw [eA]
  refine zk_ite (fun h5 => ?_) (fun h5 => ?_)
  · have g5 := zlt h5
    unfold B_X7_sheet_32
    refine zk_ite (fun _ => ?_) (fun z => absurd h5 z)
    exact l44 _ (by rw [if_pos (by omega), if_neg (by omega)])
  · have g5 := znlt h5
    refine zk_ite (fun h6 => ?_) (fun h6 => ?_)
    · have g6 := zle h6
      unfold B_X7_sheet_32
      refine zk_ite (fun z => absurd z h5) (fun _ => ?_)
      refine zk_ite (fun h7 => ?_) (fun h7 => ?_)
      · have g7 := zle h7
        exact l44 _ (by rw [if_neg (by omega), if_pos (by omega), if_pos (by omega), if_pos (by omega)])
      · have g7 := znle h7
        exact zk_some (by rw [if_neg (by omega), if_pos (by omega), if_neg (by omega)])
    · have g6 := znle h6
      exact zk_some (by rw [if_neg (by omega), if_neg (by omega)])
