set_option maxHeartbeats 4000000 in
set_option maxRecDepth 100000 in
theorem c7_sets (l : Launch) (D : va_G) (mo : Nat) (ms : Nat) (mi : Nat) (ma : Nat) (mts : Nat) (mtz : Nat) (mtn : Nat) (mh : Nat) (mhn : Nat) (mhw : Nat) (mhz : Nat) (mhr : Nat) (mcl : Nat) (mtp : Nat) (mna : Nat) (mpi : Nat) (mca : Nat) (mwa : Nat) (mrd : Nat) (j3 : Int32) (j14 : Int32) (j15 : Int32) (j16 : Int32) (j17 : Int32) (j18 : Int32) (j19 : Int32) (j20 : Int32) (j21 : Int32) (j22 : Int32) (j23 : Int32) (j24 : Int32) (j29 : Int32) (kms : ClassId) (f : (Nat → Int32)) (a0 : Int32) (a1 : Int32) (a2 : Int32) (a3 : Int32) (a4 : Int32) (a5 : Int32) (a6 : Int32) (a7 : Int32) (a8 : Int32) (a9 : Int32) (a10 : Int32) (k : Int32) (wh : Int32) (v : Int32) (af_0 : f 0 = a0) (af_1 : f 1 = a1) (af_2 : f 2 = a2) (af_3 : f 3 = a3) (af_4 : f 4 = a4) (af_5 : f 5 = a5) (af_6 : f 6 = a6) (af_7 : f 7 = a7) (af_8 : f 8 = a8) (af_9 : f 9 = a9) (af_10 : f 10 = a10) (hin : vp_in (11 + 4 * k + wh) 3047) (hge : 11 ≤ Int32.toNatClampNeg (11 + 4 * k + wh)) : zz_MV l yX7_sets wsX7_sets 0 0 0 0 D [.ref mo, .int k, .int wh, .int v] [(mo, .inr (7, [.ref ms, .ref mi, .ref ma, .int j3, .ref mts, .ref mtz, .ref mtn, .ref mh, .ref mhn, .ref mhw, .ref mhz, .ref mhr, .ref mcl, .ref mtp, .int j14, .int j15, .int j16, .int j17, .int j18, .int j19, .int j20, .int j21, .int j22, .int j23, .int j24, .ref mna, .ref mpi, .ref mca, .ref mwa, .int j29, .ref mrd])), (ms, .inl (kms, 3047, .inl f))] [(kms, .int)] (fun (f9 : (Nat → Int32)) => (f9 0 = a0 ∧ f9 1 = a1 ∧ f9 2 = a2 ∧ f9 3 = a3 ∧ f9 4 = a4 ∧ f9 5 = a5 ∧ f9 6 = a6 ∧ f9 7 = a7 ∧ f9 8 = a8 ∧ f9 9 = a9 ∧ f9 10 = a10) ∧ (True)) (fun (f9 : (Nat → Int32)) => [(mo, .inr (7, [.ref ms, .ref mi, .ref ma, .int j3, .ref mts, .ref mtz, .ref mtn, .ref mh, .ref mhn, .ref mhw, .ref mhz, .ref mhr, .ref mcl, .ref mtp, .int j14, .int j15, .int j16, .int j17, .int j18, .int j19, .int j20, .int j21, .int j22, .int j23, .int j24, .ref mna, .ref mpi, .ref mca, .ref mwa, .int j29, .ref mrd])), (ms, .inl (kms, 3047, .inl f9))]) (fun (f9 : (Nat → Int32)) => [(kms, .int)]) := by
  intro sz
  refine Met.ofW (cc := cX7_sets) (maxL := 4) (ret := none) (by decide) rfl ?_
  intro p e s m args below meth c s₁ B hml hv
  obtain ⟨rfl, hC⟩ := hv
  have hx := B.exec
  have hb := B.bytes
  have hr := B.returns
  have hts := atoms_spec (ws := wsX7_sets) B.pre
  have hown : s.vm.findClass RX7 = some m.cls := findClass_of_methodNamed B.named
  have hlk := B.notSynchronized
  have X : CallFix p m c cX7_sets 4 s _ wsX7_sets RX7 := ⟨hx, hb, hml, hown, hts⟩
  have Z := zz_enter hC
  generalize va_A [(mo, .inr (7, [.ref ms, .ref mi, .ref ma, .int j3, .ref mts, .ref mtz, .ref mtn, .ref mh, .ref mhn, .ref mhw, .ref mhz, .ref mhr, .ref mcl, .ref mtp, .int j14, .int j15, .int j16, .int j17, .int j18, .int j19, .int j20, .int j21, .int j22, .int j23, .int j24, .ref mna, .ref mpi, .ref mca, .ref mwa, .int j29, .ref mrd])), (ms, .inl (kms, 3047, .inl f))] sz = A at Z ⊢
  have hl := lv_entry ([.ref mo, .int k, .int wh, .int v]) (n := 4) (Nat.le_of_ble_eq_true rfl)
  rw [lg_entry_eq]
  generalize (lg_sl ([.ref mo, .int k, .int wh, .int v]) ++ List.replicate (4 - (lg_sl ([.ref mo, .int k, .int wh, .int v])).length) Slot.unset).toArray = ls at hl ⊢
  have hl : lv_has ls 4 [(0, .ref mo), (1, .int k), (2, .int wh), (3, .int v)] := hl
  refine lv_aload_n hx hb dX7_sets_0 rfl (lv_at hl 0 rfl) ?_
  refine zz_get X Z 0 rfl rfl (fun w h => List.mem_cons_of_mem _ (List.mem_append_right _ h)) 0 rfl (zz_m 1 rfl) rfl dX7_sets_1 ?_
  refine lv_bipush (v := 11) hx hb dX7_sets_4 (by decide) ?_
  refine lv_iconst (v := 4) hx hb dX7_sets_6 (by decide) ?_
  refine lv_iload_n hx hb dX7_sets_7 rfl (lv_at hl 1 rfl) ?_
  refine lv_imul hx hb dX7_sets_8 ?_
  refine lv_iadd hx hb dX7_sets_9 ?_
  refine lv_iload_n hx hb dX7_sets_10 rfl (lv_at hl 2 rfl) ?_
  refine lv_iadd hx hb dX7_sets_11 ?_
  refine lv_iload_n hx hb dX7_sets_12 rfl (lv_at hl 3 rfl) ?_
  refine zz_istN (WS' := fun f1 => [(mo, .inr (7, [.ref ms, .ref mi, .ref ma, .int j3, .ref mts, .ref mtz, .ref mtn, .ref mh, .ref mhn, .ref mhw, .ref mhz, .ref mhr, .ref mcl, .ref mtp, .int j14, .int j15, .int j16, .int j17, .int j18, .int j19, .int j20, .int j21, .int j22, .int j23, .int j24, .ref mna, .ref mpi, .ref mca, .ref mwa, .int j29, .ref mrd])), (ms, .inl (kms, 3047, .inl f1))]) X Z 1 0 rfl rfl (by first | exact hin | (simpa using hin)) dX7_sets_13 (fun _ => rfl) (fun f1 ef2 H1 locs2 Z3 => ?_)
  clear Z
  exact zz_vret X hr hlk Z3 (f1) ⟨⟨(zz_sm ef2 (by first | omega | (intro q; have := hge; simp only [] at q; omega)) af_0), (zz_sm ef2 (by first | omega | (intro q; have := hge; simp only [] at q; omega)) af_1), (zz_sm ef2 (by first | omega | (intro q; have := hge; simp only [] at q; omega)) af_2), (zz_sm ef2 (by first | omega | (intro q; have := hge; simp only [] at q; omega)) af_3), (zz_sm ef2 (by first | omega | (intro q; have := hge; simp only [] at q; omega)) af_4), (zz_sm ef2 (by first | omega | (intro q; have := hge; simp only [] at q; omega)) af_5), (zz_sm ef2 (by first | omega | (intro q; have := hge; simp only [] at q; omega)) af_6), (zz_sm ef2 (by first | omega | (intro q; have := hge; simp only [] at q; omega)) af_7), (zz_sm ef2 (by first | omega | (intro q; have := hge; simp only [] at q; omega)) af_8), (zz_sm ef2 (by first | omega | (intro q; have := hge; simp only [] at q; omega)) af_9), (zz_sm ef2 (by first | omega | (intro q; have := hge; simp only [] at q; omega)) af_10)⟩, trivial⟩ [0, 1] [0] (by decide +kernel) rfl rfl dX7_sets_14

set_option maxHeartbeats 4000000 in
set_option maxRecDepth 100000 in
theorem c7_comes0 (l : Launch) (D : va_G) (mo : Nat) (ms : Nat) (mi : Nat) (ma : Nat) (mts : Nat) (mtz : Nat) (mtn : Nat) (mh : Nat) (mhn : Nat) (mhw : Nat) (mhz : Nat) (mhr : Nat) (mcl : Nat) (mtp : Nat) (mna : Nat) (mpi : Nat) (mca : Nat) (mwa : Nat) (mrd : Nat) (j3 : Int32) (j14 : Int32) (j15 : Int32) (j16 : Int32) (j17 : Int32) (j18 : Int32) (j19 : Int32) (j20 : Int32) (j21 : Int32) (j22 : Int32) (j23 : Int32) (j24 : Int32) (j29 : Int32) (kms : ClassId) (f : (Nat → Int32)) (a1 : Int32) (a2 : Int32) (a3 : Int32) (a4 : Int32) (a5 : Int32) (a6 : Int32) (a7 : Int32) (a8 : Int32) (a9 : Int32) (a10 : Int32) (kk : Int32) (pp : Int32) (yy : Int32) (af_0 : f 0 = 0) (af_1 : f 1 = a1) (af_2 : f 2 = a2) (af_3 : f 3 = a3) (af_4 : f 4 = a4) (af_5 : f 5 = a5) (af_6 : f 6 = a6) (af_7 : f 7 = a7) (af_8 : f 8 = a8) (af_9 : f 9 = a9) (af_10 : f 10 = a10) : zz_MV l yX7_comes wsX7_comes 1 23 0 0 D [.ref mo, .int kk, .int pp, .int yy] [(mo, .inr (7, [.ref ms, .ref mi, .ref ma, .int j3, .ref mts, .ref mtz, .ref mtn, .ref mh, .ref mhn, .ref mhw, .ref mhz, .ref mhr, .ref mcl, .ref mtp, .int j14, .int j15, .int j16, .int j17, .int j18, .int j19, .int j20, .int j21, .int j22, .int j23, .int j24, .ref mna, .ref mpi, .ref mca, .ref mwa, .int j29, .ref mrd])), (ms, .inl (kms, 3047, .inl f))] [(kms, .int)] (fun (f9 : (Nat → Int32)) => (f9 0 = 1 ∧ f9 1 = a1 ∧ f9 2 = a2 ∧ f9 3 = a3 ∧ f9 4 = a4 ∧ f9 5 = a5 ∧ f9 6 = a6 ∧ f9 7 = a7 ∧ f9 8 = a8 ∧ f9 9 = a9 ∧ f9 10 = a10) ∧ (True)) (fun (f9 : (Nat → Int32)) => [(mo, .inr (7, [.ref ms, .ref mi, .ref ma, .int j3, .ref mts, .ref mtz, .ref mtn, .ref mh, .ref mhn, .ref mhw, .ref mhz, .ref mhr, .ref mcl, .ref mtp, .int j14, .int j15, .int j16, .int j17, .int j18, .int j19, .int j20, .int j21, .int j22, .int j23, .int j24, .ref mna, .ref mpi, .ref mca, .ref mwa, .int j29, .ref mrd])), (ms, .inl (kms, 3047, .inl f9))]) (fun (f9 : (Nat → Int32)) => [(kms, .int)]) := by
  intro sz
  refine Met.ofW (cc := cX7_comes) (maxL := 5) (ret := none) (by decide) rfl ?_
  intro p e s m args below meth c s₁ B hml hv
  obtain ⟨rfl, hC⟩ := hv
  have hx := B.exec
  have hb := B.bytes
  have hr := B.returns
  have hts := atoms_spec (ws := wsX7_comes) B.pre
  have hown : s.vm.findClass RX7 = some m.cls := findClass_of_methodNamed B.named
  have hlk := B.notSynchronized
  have X : CallFix p m c cX7_comes 5 s _ wsX7_comes RX7 := ⟨hx, hb, hml, hown, hts⟩
  have Z := zz_enter hC
  generalize va_A [(mo, .inr (7, [.ref ms, .ref mi, .ref ma, .int j3, .ref mts, .ref mtz, .ref mtn, .ref mh, .ref mhn, .ref mhw, .ref mhz, .ref mhr, .ref mcl, .ref mtp, .int j14, .int j15, .int j16, .int j17, .int j18, .int j19, .int j20, .int j21, .int j22, .int j23, .int j24, .ref mna, .ref mpi, .ref mca, .ref mwa, .int j29, .ref mrd])), (ms, .inl (kms, 3047, .inl f))] sz = A at Z ⊢
  have hl := lv_entry ([.ref mo, .int kk, .int pp, .int yy]) (n := 5) (Nat.le_of_ble_eq_true rfl)
  rw [lg_entry_eq]
  generalize (lg_sl ([.ref mo, .int kk, .int pp, .int yy]) ++ List.replicate (5 - (lg_sl ([.ref mo, .int kk, .int pp, .int yy])).length) Slot.unset).toArray = ls at hl ⊢
  have hl : lv_has ls 5 [(0, .ref mo), (1, .int kk), (2, .int pp), (3, .int yy)] := hl
  refine lv_aload_n hx hb dX7_comes_0 rfl (lv_at hl 0 rfl) ?_
  refine zz_get X Z 0 rfl rfl (fun w h => List.mem_cons_of_mem _ (List.mem_append_right _ h)) 0 rfl (zz_m 1 rfl) rfl dX7_comes_1 ?_
  refine lv_iconst (v := 0) hx hb dX7_comes_4 (by decide) ?_
  refine zz_ild X Z 1 0 rfl rfl (zz_in 0 3047 rfl) dX7_comes_5 ?_
  refine zz_v (v := 0) af_0 ?_
  refine lv_istore (lv' := [(4, .int 0), (0, .ref mo), (1, .int kk), (2, .int pp), (3, .int yy)]) hx hb dX7_comes_6 hl (by decide) rfl (fun ls1 hl2 => ?_)
  clear hl
  refine lv_aload_n hx hb dX7_comes_8 rfl (lv_at hl2 1 rfl) ?_
  refine zz_get X Z 0 rfl rfl (fun w h => List.mem_cons_of_mem _ (List.mem_append_right _ h)) 0 rfl (zz_m 1 rfl) rfl dX7_comes_9 ?_
  refine lv_iconst (v := 0) hx hb dX7_comes_12 (by decide) ?_
  refine lv_dup2_11 hx hb dX7_comes_13 rfl rfl ?_
  refine zz_ild X Z 1 0 rfl rfl (zz_in 0 3047 rfl) dX7_comes_14 ?_
  refine zz_v (v := 0) af_0 ?_
  refine lv_iconst (v := 1) hx hb dX7_comes_15 (by decide) ?_
  refine lv_iadd hx hb dX7_comes_16 ?_
  refine zz_v (v := 1) (by decide) ?_
  refine zz_istN (WS' := fun f1 => [(mo, .inr (7, [.ref ms, .ref mi, .ref ma, .int j3, .ref mts, .ref mtz, .ref mtn, .ref mh, .ref mhn, .ref mhw, .ref mhz, .ref mhr, .ref mcl, .ref mtp, .int j14, .int j15, .int j16, .int j17, .int j18, .int j19, .int j20, .int j21, .int j22, .int j23, .int j24, .ref mna, .ref mpi, .ref mca, .ref mwa, .int j29, .ref mrd])), (ms, .inl (kms, 3047, .inl f1))]) X Z 1 0 rfl rfl (zz_in 0 3047 rfl) dX7_comes_17 (fun _ => rfl) (fun f1 ef2 H3 locs4 Z5 => ?_)
  clear Z
  have p3 : f1 0 = 1 := (by rw [ef2]; rfl)
  have p4 : f1 1 = a1 := (by rw [ef2]; exact af_1)
  have p5 : f1 2 = a2 := (by rw [ef2]; exact af_2)
  have p6 : f1 3 = a3 := (by rw [ef2]; exact af_3)
  have p7 : f1 4 = a4 := (by rw [ef2]; exact af_4)
  have p8 : f1 5 = a5 := (by rw [ef2]; exact af_5)
  have p9 : f1 6 = a6 := (by rw [ef2]; exact af_6)
  have p10 : f1 7 = a7 := (by rw [ef2]; exact af_7)
  have p11 : f1 8 = a8 := (by rw [ef2]; exact af_8)
  have p12 : f1 9 = a9 := (by rw [ef2]; exact af_9)
  have p13 : f1 10 = a10 := (by rw [ef2]; exact af_10)
  refine lv_aload_n hx hb dX7_comes_18 rfl (lv_at hl2 1 rfl) ?_
  refine lv_iload hx hb dX7_comes_19 (lv_at hl2 0 rfl) ?_
  refine lv_iconst (v := 0) hx hb dX7_comes_21 (by decide) ?_
  refine lv_iload_n hx hb dX7_comes_22 rfl (lv_at hl2 2 rfl) ?_
  refine zz_cv (WC := [(mo, .inr (7, [.ref ms, .ref mi, .ref ma, .int j3, .ref mts, .ref mtz, .ref mtn, .ref mh, .ref mhn, .ref mhw, .ref mhz, .ref mhr, .ref mcl, .ref mtp, .int j14, .int j15, .int j16, .int j17, .int j18, .int j19, .int j20, .int j21, .int j22, .int j23, .int j24, .ref mna, .ref mpi, .ref mca, .ref mwa, .int j29, .ref mrd])), (ms, .inl (kms, 3047, .inl f1))]) (TC := [(kms, .int)]) (WR := []) (TR := []) (k := 0) (n := 0) Z5 [0, 1] [] [0] [] rfl rfl (by decide +kernel) (by decide +kernel) (by decide +kernel) rfl rfl (fun Zc => va_runV (As := [.int 0, .int 0, .int kk]) (rest := []) X (c7_sets l D mo ms mi ma mts mtz mtn mh mhn mhw mhz mhr mcl mtp mna mpi mca mwa mrd j3 j14 j15 j16 j17 j18 j19 j20 j21 j22 j23 j24 j29 kms f1 1 a1 a2 a3 a4 a5 a6 a7 a8 a9 a10 0 0 kk p3 p4 p5 p6 p7 p8 p9 p10 p11 p12 p13 (zz_in _ 3047 (by decide)) (by decide) H3.size) (cwV 3 hts gX7_comes_X7_sets rfl rfl rfl ⟨rfl, zh_X7_sets⟩ ⟨Nat.le_of_ble_eq_true rfl, Nat.le_of_ble_eq_true rfl⟩) (zz_pV (ci := 7) Zc 0 rfl rfl) rfl rfl hl2.1 rfl (lv_room (Nat.le_of_ble_eq_true rfl)) dX7_comes_23 ⟨Nat.le_of_ble_eq_true rfl, Nat.le_of_ble_eq_true rfl⟩) rfl rfl (fun u14 H6 locs7 hw15 Z8 => ?_)
  clear Z5
  obtain ⟨f917, rfl⟩ : ∃ z, z = u14 := ⟨_, rfl⟩
  try dsimp only at hw15 Z8
  obtain ⟨⟨p18, p19, p20, p21, p22, p23, p24, p25, p26, p27, p28⟩, hx29⟩ := hw15
  have Z9 : zz_S D A s [(mo, .inr (7, [.ref ms, .ref mi, .ref ma, .int j3, .ref mts, .ref mtz, .ref mtn, .ref mh, .ref mhn, .ref mhw, .ref mhz, .ref mhr, .ref mcl, .ref mtp, .int j14, .int j15, .int j16, .int j17, .int j18, .int j19, .int j20, .int j21, .int j22, .int j23, .int j24, .ref mna, .ref mpi, .ref mca, .ref mwa, .int j29, .ref mrd])), (ms, .inl (kms, 3047, .inl f917))] [(kms, .int)] H6 locs7 := Z8
  clear Z8
  refine lv_aload_n hx hb dX7_comes_26 rfl (lv_at hl2 1 rfl) ?_
  refine lv_iload hx hb dX7_comes_27 (lv_at hl2 0 rfl) ?_
  refine lv_iconst (v := 1) hx hb dX7_comes_29 (by decide) ?_
  refine lv_iload_n hx hb dX7_comes_30 rfl (lv_at hl2 3 rfl) ?_
  refine zz_cv (WC := [(mo, .inr (7, [.ref ms, .ref mi, .ref ma, .int j3, .ref mts, .ref mtz, .ref mtn, .ref mh, .ref mhn, .ref mhw, .ref mhz, .ref mhr, .ref mcl, .ref mtp, .int j14, .int j15, .int j16, .int j17, .int j18, .int j19, .int j20, .int j21, .int j22, .int j23, .int j24, .ref mna, .ref mpi, .ref mca, .ref mwa, .int j29, .ref mrd])), (ms, .inl (kms, 3047, .inl f917))]) (TC := [(kms, .int)]) (WR := []) (TR := []) (k := 0) (n := 0) Z9 [0, 1] [] [0] [] rfl rfl (by decide +kernel) (by decide +kernel) (by decide +kernel) rfl rfl (fun Zc => va_runV (As := [.int 0, .int 1, .int pp]) (rest := []) X (c7_sets l D mo ms mi ma mts mtz mtn mh mhn mhw mhz mhr mcl mtp mna mpi mca mwa mrd j3 j14 j15 j16 j17 j18 j19 j20 j21 j22 j23 j24 j29 kms f917 1 a1 a2 a3 a4 a5 a6 a7 a8 a9 a10 0 1 pp p18 p19 p20 p21 p22 p23 p24 p25 p26 p27 p28 (zz_in _ 3047 (by decide)) (by decide) H6.size) (cwV 3 hts gX7_comes_X7_sets rfl rfl rfl ⟨rfl, zh_X7_sets⟩ ⟨Nat.le_of_ble_eq_true rfl, Nat.le_of_ble_eq_true rfl⟩) (zz_pV (ci := 7) Zc 0 rfl rfl) rfl rfl hl2.1 rfl (lv_room (Nat.le_of_ble_eq_true rfl)) dX7_comes_31 ⟨Nat.le_of_ble_eq_true rfl, Nat.le_of_ble_eq_true rfl⟩) rfl rfl (fun u30 H10 locs11 hw31 Z12 => ?_)
  clear Z9
  obtain ⟨f933, rfl⟩ : ∃ z, z = u30 := ⟨_, rfl⟩
  try dsimp only at hw31 Z12
  obtain ⟨⟨p34, p35, p36, p37, p38, p39, p40, p41, p42, p43, p44⟩, hx45⟩ := hw31
  have Z13 : zz_S D A s [(mo, .inr (7, [.ref ms, .ref mi, .ref ma, .int j3, .ref mts, .ref mtz, .ref mtn, .ref mh, .ref mhn, .ref mhw, .ref mhz, .ref mhr, .ref mcl, .ref mtp, .int j14, .int j15, .int j16, .int j17, .int j18, .int j19, .int j20, .int j21, .int j22, .int j23, .int j24, .ref mna, .ref mpi, .ref mca, .ref mwa, .int j29, .ref mrd])), (ms, .inl (kms, 3047, .inl f933))] [(kms, .int)] H10 locs11 := Z12
  clear Z12
  refine lv_aload_n hx hb dX7_comes_34 rfl (lv_at hl2 1 rfl) ?_
  refine lv_iload hx hb dX7_comes_35 (lv_at hl2 0 rfl) ?_
  refine lv_iconst (v := 2) hx hb dX7_comes_37 (by decide) ?_
  refine lv_bipush (v := 100) hx hb dX7_comes_38 (by decide) ?_
  refine zz_cv (WC := [(mo, .inr (7, [.ref ms, .ref mi, .ref ma, .int j3, .ref mts, .ref mtz, .ref mtn, .ref mh, .ref mhn, .ref mhw, .ref mhz, .ref mhr, .ref mcl, .ref mtp, .int j14, .int j15, .int j16, .int j17, .int j18, .int j19, .int j20, .int j21, .int j22, .int j23, .int j24, .ref mna, .ref mpi, .ref mca, .ref mwa, .int j29, .ref mrd])), (ms, .inl (kms, 3047, .inl f933))]) (TC := [(kms, .int)]) (WR := []) (TR := []) (k := 0) (n := 0) Z13 [0, 1] [] [0] [] rfl rfl (by decide +kernel) (by decide +kernel) (by decide +kernel) rfl rfl (fun Zc => va_runV (As := [.int 0, .int 2, .int 100]) (rest := []) X (c7_sets l D mo ms mi ma mts mtz mtn mh mhn mhw mhz mhr mcl mtp mna mpi mca mwa mrd j3 j14 j15 j16 j17 j18 j19 j20 j21 j22 j23 j24 j29 kms f933 1 a1 a2 a3 a4 a5 a6 a7 a8 a9 a10 0 2 100 p34 p35 p36 p37 p38 p39 p40 p41 p42 p43 p44 (zz_in _ 3047 (by decide)) (by decide) H10.size) (cwV 3 hts gX7_comes_X7_sets rfl rfl rfl ⟨rfl, zh_X7_sets⟩ ⟨Nat.le_of_ble_eq_true rfl, Nat.le_of_ble_eq_true rfl⟩) (zz_pV (ci := 7) Zc 0 rfl rfl) rfl rfl hl2.1 rfl (lv_room (Nat.le_of_ble_eq_true rfl)) dX7_comes_40 ⟨Nat.le_of_ble_eq_true rfl, Nat.le_of_ble_eq_true rfl⟩) rfl rfl (fun u46 H14 locs15 hw47 Z16 => ?_)
  clear Z13
  obtain ⟨f949, rfl⟩ : ∃ z, z = u46 := ⟨_, rfl⟩
  try dsimp only at hw47 Z16
  obtain ⟨⟨p50, p51, p52, p53, p54, p55, p56, p57, p58, p59, p60⟩, hx61⟩ := hw47
  have Z17 : zz_S D A s [(mo, .inr (7, [.ref ms, .ref mi, .ref ma, .int j3, .ref mts, .ref mtz, .ref mtn, .ref mh, .ref mhn, .ref mhw, .ref mhz, .ref mhr, .ref mcl, .ref mtp, .int j14, .int j15, .int j16, .int j17, .int j18, .int j19, .int j20, .int j21, .int j22, .int j23, .int j24, .ref mna, .ref mpi, .ref mca, .ref mwa, .int j29, .ref mrd])), (ms, .inl (kms, 3047, .inl f949))] [(kms, .int)] H14 locs15 := Z16
  clear Z16
  refine lv_aload_n hx hb dX7_comes_43 rfl (lv_at hl2 1 rfl) ?_
  refine lv_iload hx hb dX7_comes_44 (lv_at hl2 0 rfl) ?_
  refine lv_iconst (v := 3) hx hb dX7_comes_46 (by decide) ?_
  refine lv_iload_n hx hb dX7_comes_47 rfl (lv_at hl2 4 rfl) ?_
  refine zz_cv (WC := [(mo, .inr (7, [.ref ms, .ref mi, .ref ma, .int j3, .ref mts, .ref mtz, .ref mtn, .ref mh, .ref mhn, .ref mhw, .ref mhz, .ref mhr, .ref mcl, .ref mtp, .int j14, .int j15, .int j16, .int j17, .int j18, .int j19, .int j20, .int j21, .int j22, .int j23, .int j24, .ref mna, .ref mpi, .ref mca, .ref mwa, .int j29, .ref mrd])), (ms, .inl (kms, 3047, .inl f949))]) (TC := [(kms, .int)]) (WR := []) (TR := []) (k := 0) (n := 0) Z17 [0, 1] [] [0] [] rfl rfl (by decide +kernel) (by decide +kernel) (by decide +kernel) rfl rfl (fun Zc => va_runV (As := [.int 0, .int 3, .int yy]) (rest := []) X (c7_sets l D mo ms mi ma mts mtz mtn mh mhn mhw mhz mhr mcl mtp mna mpi mca mwa mrd j3 j14 j15 j16 j17 j18 j19 j20 j21 j22 j23 j24 j29 kms f949 1 a1 a2 a3 a4 a5 a6 a7 a8 a9 a10 0 3 yy p50 p51 p52 p53 p54 p55 p56 p57 p58 p59 p60 (zz_in _ 3047 (by decide)) (by decide) H14.size) (cwV 3 hts gX7_comes_X7_sets rfl rfl rfl ⟨rfl, zh_X7_sets⟩ ⟨Nat.le_of_ble_eq_true rfl, Nat.le_of_ble_eq_true rfl⟩) (zz_pV (ci := 7) Zc 0 rfl rfl) rfl rfl hl2.1 rfl (lv_room (Nat.le_of_ble_eq_true rfl)) dX7_comes_48 ⟨Nat.le_of_ble_eq_true rfl, Nat.le_of_ble_eq_true rfl⟩) rfl rfl (fun u62 H18 locs19 hw63 Z20 => ?_)
  clear Z17
  obtain ⟨f965, rfl⟩ : ∃ z, z = u62 := ⟨_, rfl⟩
  try dsimp only at hw63 Z20
  obtain ⟨⟨p66, p67, p68, p69, p70, p71, p72, p73, p74, p75, p76⟩, hx77⟩ := hw63
  have Z21 : zz_S D A s [(mo, .inr (7, [.ref ms, .ref mi, .ref ma, .int j3, .ref mts, .ref mtz, .ref mtn, .ref mh, .ref mhn, .ref mhw, .ref mhz, .ref mhr, .ref mcl, .ref mtp, .int j14, .int j15, .int j16, .int j17, .int j18, .int j19, .int j20, .int j21, .int j22, .int j23, .int j24, .ref mna, .ref mpi, .ref mca, .ref mwa, .int j29, .ref mrd])), (ms, .inl (kms, 3047, .inl f965))] [(kms, .int)] H18 locs19 := Z20
  clear Z20
  exact zz_vret X hr hlk Z21 (f965) ⟨⟨p66, p67, p68, p69, p70, p71, p72, p73, p74, p75, p76⟩, trivial⟩ [0, 1] [0] (by decide +kernel) rfl rfl dX7_comes_51

set_option maxHeartbeats 4000000 in
set_option maxRecDepth 100000 in
theorem c7_comes1 (l : Launch) (D : va_G) (mo : Nat) (ms : Nat) (mi : Nat) (ma : Nat) (mts : Nat) (mtz : Nat) (mtn : Nat) (mh : Nat) (mhn : Nat) (mhw : Nat) (mhz : Nat) (mhr : Nat) (mcl : Nat) (mtp : Nat) (mna : Nat) (mpi : Nat) (mca : Nat) (mwa : Nat) (mrd : Nat) (j3 : Int32) (j14 : Int32) (j15 : Int32) (j16 : Int32) (j17 : Int32) (j18 : Int32) (j19 : Int32) (j20 : Int32) (j21 : Int32) (j22 : Int32) (j23 : Int32) (j24 : Int32) (j29 : Int32) (kms : ClassId) (f : (Nat → Int32)) (a1 : Int32) (a2 : Int32) (a3 : Int32) (a4 : Int32) (a5 : Int32) (a6 : Int32) (a7 : Int32) (a8 : Int32) (a9 : Int32) (a10 : Int32) (kk : Int32) (pp : Int32) (yy : Int32) (af_0 : f 0 = 1) (af_1 : f 1 = a1) (af_2 : f 2 = a2) (af_3 : f 3 = a3) (af_4 : f 4 = a4) (af_5 : f 5 = a5) (af_6 : f 6 = a6) (af_7 : f 7 = a7) (af_8 : f 8 = a8) (af_9 : f 9 = a9) (af_10 : f 10 = a10) : zz_MV l yX7_comes wsX7_comes 1 23 0 0 D [.ref mo, .int kk, .int pp, .int yy] [(mo, .inr (7, [.ref ms, .ref mi, .ref ma, .int j3, .ref mts, .ref mtz, .ref mtn, .ref mh, .ref mhn, .ref mhw, .ref mhz, .ref mhr, .ref mcl, .ref mtp, .int j14, .int j15, .int j16, .int j17, .int j18, .int j19, .int j20, .int j21, .int j22, .int j23, .int j24, .ref mna, .ref mpi, .ref mca, .ref mwa, .int j29, .ref mrd])), (ms, .inl (kms, 3047, .inl f))] [(kms, .int)] (fun (f9 : (Nat → Int32)) => (f9 0 = 2 ∧ f9 1 = a1 ∧ f9 2 = a2 ∧ f9 3 = a3 ∧ f9 4 = a4 ∧ f9 5 = a5 ∧ f9 6 = a6 ∧ f9 7 = a7 ∧ f9 8 = a8 ∧ f9 9 = a9 ∧ f9 10 = a10) ∧ (True)) (fun (f9 : (Nat → Int32)) => [(mo, .inr (7, [.ref ms, .ref mi, .ref ma, .int j3, .ref mts, .ref mtz, .ref mtn, .ref mh, .ref mhn, .ref mhw, .ref mhz, .ref mhr, .ref mcl, .ref mtp, .int j14, .int j15, .int j16, .int j17, .int j18, .int j19, .int j20, .int j21, .int j22, .int j23, .int j24, .ref mna, .ref mpi, .ref mca, .ref mwa, .int j29, .ref mrd])), (ms, .inl (kms, 3047, .inl f9))]) (fun (f9 : (Nat → Int32)) => [(kms, .int)]) := by
  intro sz
  refine Met.ofW (cc := cX7_comes) (maxL := 5) (ret := none) (by decide) rfl ?_
  intro p e s m args below meth c s₁ B hml hv
  obtain ⟨rfl, hC⟩ := hv
  have hx := B.exec
  have hb := B.bytes
  have hr := B.returns
  have hts := atoms_spec (ws := wsX7_comes) B.pre
  have hown : s.vm.findClass RX7 = some m.cls := findClass_of_methodNamed B.named
  have hlk := B.notSynchronized
  have X : CallFix p m c cX7_comes 5 s _ wsX7_comes RX7 := ⟨hx, hb, hml, hown, hts⟩
  have Z := zz_enter hC
  generalize va_A [(mo, .inr (7, [.ref ms, .ref mi, .ref ma, .int j3, .ref mts, .ref mtz, .ref mtn, .ref mh, .ref mhn, .ref mhw, .ref mhz, .ref mhr, .ref mcl, .ref mtp, .int j14, .int j15, .int j16, .int j17, .int j18, .int j19, .int j20, .int j21, .int j22, .int j23, .int j24, .ref mna, .ref mpi, .ref mca, .ref mwa, .int j29, .ref mrd])), (ms, .inl (kms, 3047, .inl f))] sz = A at Z ⊢
  have hl := lv_entry ([.ref mo, .int kk, .int pp, .int yy]) (n := 5) (Nat.le_of_ble_eq_true rfl)
  rw [lg_entry_eq]
  generalize (lg_sl ([.ref mo, .int kk, .int pp, .int yy]) ++ List.replicate (5 - (lg_sl ([.ref mo, .int kk, .int pp, .int yy])).length) Slot.unset).toArray = ls at hl ⊢
  have hl : lv_has ls 5 [(0, .ref mo), (1, .int kk), (2, .int pp), (3, .int yy)] := hl
  refine lv_aload_n hx hb dX7_comes_0 rfl (lv_at hl 0 rfl) ?_
  refine zz_get X Z 0 rfl rfl (fun w h => List.mem_cons_of_mem _ (List.mem_append_right _ h)) 0 rfl (zz_m 1 rfl) rfl dX7_comes_1 ?_
  refine lv_iconst (v := 0) hx hb dX7_comes_4 (by decide) ?_
  refine zz_ild X Z 1 0 rfl rfl (zz_in 0 3047 rfl) dX7_comes_5 ?_
  refine zz_v (v := 1) af_0 ?_
  refine lv_istore (lv' := [(4, .int 1), (0, .ref mo), (1, .int kk), (2, .int pp), (3, .int yy)]) hx hb dX7_comes_6 hl (by decide) rfl (fun ls1 hl2 => ?_)
  clear hl
  refine lv_aload_n hx hb dX7_comes_8 rfl (lv_at hl2 1 rfl) ?_
  refine zz_get X Z 0 rfl rfl (fun w h => List.mem_cons_of_mem _ (List.mem_append_right _ h)) 0 rfl (zz_m 1 rfl) rfl dX7_comes_9 ?_
  refine lv_iconst (v := 0) hx hb dX7_comes_12 (by decide) ?_
  refine lv_dup2_11 hx hb dX7_comes_13 rfl rfl ?_
  refine zz_ild X Z 1 0 rfl rfl (zz_in 0 3047 rfl) dX7_comes_14 ?_
  refine zz_v (v := 1) af_0 ?_
  refine lv_iconst (v := 1) hx hb dX7_comes_15 (by decide) ?_
  refine lv_iadd hx hb dX7_comes_16 ?_
  refine zz_v (v := 2) (by decide) ?_
  refine zz_istN (WS' := fun f1 => [(mo, .inr (7, [.ref ms, .ref mi, .ref ma, .int j3, .ref mts, .ref mtz, .ref mtn, .ref mh, .ref mhn, .ref mhw, .ref mhz, .ref mhr, .ref mcl, .ref mtp, .int j14, .int j15, .int j16, .int j17, .int j18, .int j19, .int j20, .int j21, .int j22, .int j23, .int j24, .ref mna, .ref mpi, .ref mca, .ref mwa, .int j29, .ref mrd])), (ms, .inl (kms, 3047, .inl f1))]) X Z 1 0 rfl rfl (zz_in 0 3047 rfl) dX7_comes_17 (fun _ => rfl) (fun f1 ef2 H3 locs4 Z5 => ?_)
  clear Z
  have p3 : f1 0 = 2 := (by rw [ef2]; rfl)
  have p4 : f1 1 = a1 := (by rw [ef2]; exact af_1)
  have p5 : f1 2 = a2 := (by rw [ef2]; exact af_2)
  have p6 : f1 3 = a3 := (by rw [ef2]; exact af_3)
  have p7 : f1 4 = a4 := (by rw [ef2]; exact af_4)
  have p8 : f1 5 = a5 := (by rw [ef2]; exact af_5)
  have p9 : f1 6 = a6 := (by rw [ef2]; exact af_6)
  have p10 : f1 7 = a7 := (by rw [ef2]; exact af_7)
  have p11 : f1 8 = a8 := (by rw [ef2]; exact af_8)
  have p12 : f1 9 = a9 := (by rw [ef2]; exact af_9)
  have p13 : f1 10 = a10 := (by rw [ef2]; exact af_10)
  refine lv_aload_n hx hb dX7_comes_18 rfl (lv_at hl2 1 rfl) ?_
  refine lv_iload hx hb dX7_comes_19 (lv_at hl2 0 rfl) ?_
  refine lv_iconst (v := 0) hx hb dX7_comes_21 (by decide) ?_
  refine lv_iload_n hx hb dX7_comes_22 rfl (lv_at hl2 2 rfl) ?_
  refine zz_cv (WC := [(mo, .inr (7, [.ref ms, .ref mi, .ref ma, .int j3, .ref mts, .ref mtz, .ref mtn, .ref mh, .ref mhn, .ref mhw, .ref mhz, .ref mhr, .ref mcl, .ref mtp, .int j14, .int j15, .int j16, .int j17, .int j18, .int j19, .int j20, .int j21, .int j22, .int j23, .int j24, .ref mna, .ref mpi, .ref mca, .ref mwa, .int j29, .ref mrd])), (ms, .inl (kms, 3047, .inl f1))]) (TC := [(kms, .int)]) (WR := []) (TR := []) (k := 0) (n := 0) Z5 [0, 1] [] [0] [] rfl rfl (by decide +kernel) (by decide +kernel) (by decide +kernel) rfl rfl (fun Zc => va_runV (As := [.int 1, .int 0, .int kk]) (rest := []) X (c7_sets l D mo ms mi ma mts mtz mtn mh mhn mhw mhz mhr mcl mtp mna mpi mca mwa mrd j3 j14 j15 j16 j17 j18 j19 j20 j21 j22 j23 j24 j29 kms f1 2 a1 a2 a3 a4 a5 a6 a7 a8 a9 a10 1 0 kk p3 p4 p5 p6 p7 p8 p9 p10 p11 p12 p13 (zz_in _ 3047 (by decide)) (by decide) H3.size) (cwV 3 hts gX7_comes_X7_sets rfl rfl rfl ⟨rfl, zh_X7_sets⟩ ⟨Nat.le_of_ble_eq_true rfl, Nat.le_of_ble_eq_true rfl⟩) (zz_pV (ci := 7) Zc 0 rfl rfl) rfl rfl hl2.1 rfl (lv_room (Nat.le_of_ble_eq_true rfl)) dX7_comes_23 ⟨Nat.le_of_ble_eq_true rfl, Nat.le_of_ble_eq_true rfl⟩) rfl rfl (fun u14 H6 locs7 hw15 Z8 => ?_)
  clear Z5
  obtain ⟨f917, rfl⟩ : ∃ z, z = u14 := ⟨_, rfl⟩
  try dsimp only at hw15 Z8
  obtain ⟨⟨p18, p19, p20, p21, p22, p23, p24, p25, p26, p27, p28⟩, hx29⟩ := hw15
  have Z9 : zz_S D A s [(mo, .inr (7, [.ref ms, .ref mi, .ref ma, .int j3, .ref mts, .ref mtz, .ref mtn, .ref mh, .ref mhn, .ref mhw, .ref mhz, .ref mhr, .ref mcl, .ref mtp, .int j14, .int j15, .int j16, .int j17, .int j18, .int j19, .int j20, .int j21, .int j22, .int j23, .int j24, .ref mna, .ref mpi, .ref mca, .ref mwa, .int j29, .ref mrd])), (ms, .inl (kms, 3047, .inl f917))] [(kms, .int)] H6 locs7 := Z8
  clear Z8
  refine lv_aload_n hx hb dX7_comes_26 rfl (lv_at hl2 1 rfl) ?_
  refine lv_iload hx hb dX7_comes_27 (lv_at hl2 0 rfl) ?_
  refine lv_iconst (v := 1) hx hb dX7_comes_29 (by decide) ?_
  refine lv_iload_n hx hb dX7_comes_30 rfl (lv_at hl2 3 rfl) ?_
  refine zz_cv (WC := [(mo, .inr (7, [.ref ms, .ref mi, .ref ma, .int j3, .ref mts, .ref mtz, .ref mtn, .ref mh, .ref mhn, .ref mhw, .ref mhz, .ref mhr, .ref mcl, .ref mtp, .int j14, .int j15, .int j16, .int j17, .int j18, .int j19, .int j20, .int j21, .int j22, .int j23, .int j24, .ref mna, .ref mpi, .ref mca, .ref mwa, .int j29, .ref mrd])), (ms, .inl (kms, 3047, .inl f917))]) (TC := [(kms, .int)]) (WR := []) (TR := []) (k := 0) (n := 0) Z9 [0, 1] [] [0] [] rfl rfl (by decide +kernel) (by decide +kernel) (by decide +kernel) rfl rfl (fun Zc => va_runV (As := [.int 1, .int 1, .int pp]) (rest := []) X (c7_sets l D mo ms mi ma mts mtz mtn mh mhn mhw mhz mhr mcl mtp mna mpi mca mwa mrd j3 j14 j15 j16 j17 j18 j19 j20 j21 j22 j23 j24 j29 kms f917 2 a1 a2 a3 a4 a5 a6 a7 a8 a9 a10 1 1 pp p18 p19 p20 p21 p22 p23 p24 p25 p26 p27 p28 (zz_in _ 3047 (by decide)) (by decide) H6.size) (cwV 3 hts gX7_comes_X7_sets rfl rfl rfl ⟨rfl, zh_X7_sets⟩ ⟨Nat.le_of_ble_eq_true rfl, Nat.le_of_ble_eq_true rfl⟩) (zz_pV (ci := 7) Zc 0 rfl rfl) rfl rfl hl2.1 rfl (lv_room (Nat.le_of_ble_eq_true rfl)) dX7_comes_31 ⟨Nat.le_of_ble_eq_true rfl, Nat.le_of_ble_eq_true rfl⟩) rfl rfl (fun u30 H10 locs11 hw31 Z12 => ?_)
  clear Z9
  obtain ⟨f933, rfl⟩ : ∃ z, z = u30 := ⟨_, rfl⟩
  try dsimp only at hw31 Z12
  obtain ⟨⟨p34, p35, p36, p37, p38, p39, p40, p41, p42, p43, p44⟩, hx45⟩ := hw31
  have Z13 : zz_S D A s [(mo, .inr (7, [.ref ms, .ref mi, .ref ma, .int j3, .ref mts, .ref mtz, .ref mtn, .ref mh, .ref mhn, .ref mhw, .ref mhz, .ref mhr, .ref mcl, .ref mtp, .int j14, .int j15, .int j16, .int j17, .int j18, .int j19, .int j20, .int j21, .int j22, .int j23, .int j24, .ref mna, .ref mpi, .ref mca, .ref mwa, .int j29, .ref mrd])), (ms, .inl (kms, 3047, .inl f933))] [(kms, .int)] H10 locs11 := Z12
  clear Z12
  refine lv_aload_n hx hb dX7_comes_34 rfl (lv_at hl2 1 rfl) ?_
  refine lv_iload hx hb dX7_comes_35 (lv_at hl2 0 rfl) ?_
  refine lv_iconst (v := 2) hx hb dX7_comes_37 (by decide) ?_
  refine lv_bipush (v := 100) hx hb dX7_comes_38 (by decide) ?_
  refine zz_cv (WC := [(mo, .inr (7, [.ref ms, .ref mi, .ref ma, .int j3, .ref mts, .ref mtz, .ref mtn, .ref mh, .ref mhn, .ref mhw, .ref mhz, .ref mhr, .ref mcl, .ref mtp, .int j14, .int j15, .int j16, .int j17, .int j18, .int j19, .int j20, .int j21, .int j22, .int j23, .int j24, .ref mna, .ref mpi, .ref mca, .ref mwa, .int j29, .ref mrd])), (ms, .inl (kms, 3047, .inl f933))]) (TC := [(kms, .int)]) (WR := []) (TR := []) (k := 0) (n := 0) Z13 [0, 1] [] [0] [] rfl rfl (by decide +kernel) (by decide +kernel) (by decide +kernel) rfl rfl (fun Zc => va_runV (As := [.int 1, .int 2, .int 100]) (rest := []) X (c7_sets l D mo ms mi ma mts mtz mtn mh mhn mhw mhz mhr mcl mtp mna mpi mca mwa mrd j3 j14 j15 j16 j17 j18 j19 j20 j21 j22 j23 j24 j29 kms f933 2 a1 a2 a3 a4 a5 a6 a7 a8 a9 a10 1 2 100 p34 p35 p36 p37 p38 p39 p40 p41 p42 p43 p44 (zz_in _ 3047 (by decide)) (by decide) H10.size) (cwV 3 hts gX7_comes_X7_sets rfl rfl rfl ⟨rfl, zh_X7_sets⟩ ⟨Nat.le_of_ble_eq_true rfl, Nat.le_of_ble_eq_true rfl⟩) (zz_pV (ci := 7) Zc 0 rfl rfl) rfl rfl hl2.1 rfl (lv_room (Nat.le_of_ble_eq_true rfl)) dX7_comes_40 ⟨Nat.le_of_ble_eq_true rfl, Nat.le_of_ble_eq_true rfl⟩) rfl rfl (fun u46 H14 locs15 hw47 Z16 => ?_)
  clear Z13
  obtain ⟨f949, rfl⟩ : ∃ z, z = u46 := ⟨_, rfl⟩
  try dsimp only at hw47 Z16
  obtain ⟨⟨p50, p51, p52, p53, p54, p55, p56, p57, p58, p59, p60⟩, hx61⟩ := hw47
  have Z17 : zz_S D A s [(mo, .inr (7, [.ref ms, .ref mi, .ref ma, .int j3, .ref mts, .ref mtz, .ref mtn, .ref mh, .ref mhn, .ref mhw, .ref mhz, .ref mhr, .ref mcl, .ref mtp, .int j14, .int j15, .int j16, .int j17, .int j18, .int j19, .int j20, .int j21, .int j22, .int j23, .int j24, .ref mna, .ref mpi, .ref mca, .ref mwa, .int j29, .ref mrd])), (ms, .inl (kms, 3047, .inl f949))] [(kms, .int)] H14 locs15 := Z16
  clear Z16
  refine lv_aload_n hx hb dX7_comes_43 rfl (lv_at hl2 1 rfl) ?_
  refine lv_iload hx hb dX7_comes_44 (lv_at hl2 0 rfl) ?_
  refine lv_iconst (v := 3) hx hb dX7_comes_46 (by decide) ?_
  refine lv_iload_n hx hb dX7_comes_47 rfl (lv_at hl2 4 rfl) ?_
  refine zz_cv (WC := [(mo, .inr (7, [.ref ms, .ref mi, .ref ma, .int j3, .ref mts, .ref mtz, .ref mtn, .ref mh, .ref mhn, .ref mhw, .ref mhz, .ref mhr, .ref mcl, .ref mtp, .int j14, .int j15, .int j16, .int j17, .int j18, .int j19, .int j20, .int j21, .int j22, .int j23, .int j24, .ref mna, .ref mpi, .ref mca, .ref mwa, .int j29, .ref mrd])), (ms, .inl (kms, 3047, .inl f949))]) (TC := [(kms, .int)]) (WR := []) (TR := []) (k := 0) (n := 0) Z17 [0, 1] [] [0] [] rfl rfl (by decide +kernel) (by decide +kernel) (by decide +kernel) rfl rfl (fun Zc => va_runV (As := [.int 1, .int 3, .int yy]) (rest := []) X (c7_sets l D mo ms mi ma mts mtz mtn mh mhn mhw mhz mhr mcl mtp mna mpi mca mwa mrd j3 j14 j15 j16 j17 j18 j19 j20 j21 j22 j23 j24 j29 kms f949 2 a1 a2 a3 a4 a5 a6 a7 a8 a9 a10 1 3 yy p50 p51 p52 p53 p54 p55 p56 p57 p58 p59 p60 (zz_in _ 3047 (by decide)) (by decide) H14.size) (cwV 3 hts gX7_comes_X7_sets rfl rfl rfl ⟨rfl, zh_X7_sets⟩ ⟨Nat.le_of_ble_eq_true rfl, Nat.le_of_ble_eq_true rfl⟩) (zz_pV (ci := 7) Zc 0 rfl rfl) rfl rfl hl2.1 rfl (lv_room (Nat.le_of_ble_eq_true rfl)) dX7_comes_48 ⟨Nat.le_of_ble_eq_true rfl, Nat.le_of_ble_eq_true rfl⟩) rfl rfl (fun u62 H18 locs19 hw63 Z20 => ?_)
  clear Z17
  obtain ⟨f965, rfl⟩ : ∃ z, z = u62 := ⟨_, rfl⟩
  try dsimp only at hw63 Z20
  obtain ⟨⟨p66, p67, p68, p69, p70, p71, p72, p73, p74, p75, p76⟩, hx77⟩ := hw63
  have Z21 : zz_S D A s [(mo, .inr (7, [.ref ms, .ref mi, .ref ma, .int j3, .ref mts, .ref mtz, .ref mtn, .ref mh, .ref mhn, .ref mhw, .ref mhz, .ref mhr, .ref mcl, .ref mtp, .int j14, .int j15, .int j16, .int j17, .int j18, .int j19, .int j20, .int j21, .int j22, .int j23, .int j24, .ref mna, .ref mpi, .ref mca, .ref mwa, .int j29, .ref mrd])), (ms, .inl (kms, 3047, .inl f965))] [(kms, .int)] H18 locs19 := Z20
  clear Z20
  exact zz_vret X hr hlk Z21 (f965) ⟨⟨p66, p67, p68, p69, p70, p71, p72, p73, p74, p75, p76⟩, trivial⟩ [0, 1] [0] (by decide +kernel) rfl rfl dX7_comes_51

set_option maxHeartbeats 4000000 in
set_option maxRecDepth 100000 in
theorem c7_comes2 (l : Launch) (D : va_G) (mo : Nat) (ms : Nat) (mi : Nat) (ma : Nat) (mts : Nat) (mtz : Nat) (mtn : Nat) (mh : Nat) (mhn : Nat) (mhw : Nat) (mhz : Nat) (mhr : Nat) (mcl : Nat) (mtp : Nat) (mna : Nat) (mpi : Nat) (mca : Nat) (mwa : Nat) (mrd : Nat) (j3 : Int32) (j14 : Int32) (j15 : Int32) (j16 : Int32) (j17 : Int32) (j18 : Int32) (j19 : Int32) (j20 : Int32) (j21 : Int32) (j22 : Int32) (j23 : Int32) (j24 : Int32) (j29 : Int32) (kms : ClassId) (f : (Nat → Int32)) (a1 : Int32) (a2 : Int32) (a3 : Int32) (a4 : Int32) (a5 : Int32) (a6 : Int32) (a7 : Int32) (a8 : Int32) (a9 : Int32) (a10 : Int32) (kk : Int32) (pp : Int32) (yy : Int32) (af_0 : f 0 = 2) (af_1 : f 1 = a1) (af_2 : f 2 = a2) (af_3 : f 3 = a3) (af_4 : f 4 = a4) (af_5 : f 5 = a5) (af_6 : f 6 = a6) (af_7 : f 7 = a7) (af_8 : f 8 = a8) (af_9 : f 9 = a9) (af_10 : f 10 = a10) : zz_MV l yX7_comes wsX7_comes 1 23 0 0 D [.ref mo, .int kk, .int pp, .int yy] [(mo, .inr (7, [.ref ms, .ref mi, .ref ma, .int j3, .ref mts, .ref mtz, .ref mtn, .ref mh, .ref mhn, .ref mhw, .ref mhz, .ref mhr, .ref mcl, .ref mtp, .int j14, .int j15, .int j16, .int j17, .int j18, .int j19, .int j20, .int j21, .int j22, .int j23, .int j24, .ref mna, .ref mpi, .ref mca, .ref mwa, .int j29, .ref mrd])), (ms, .inl (kms, 3047, .inl f))] [(kms, .int)] (fun (f9 : (Nat → Int32)) => (f9 0 = 3 ∧ f9 1 = a1 ∧ f9 2 = a2 ∧ f9 3 = a3 ∧ f9 4 = a4 ∧ f9 5 = a5 ∧ f9 6 = a6 ∧ f9 7 = a7 ∧ f9 8 = a8 ∧ f9 9 = a9 ∧ f9 10 = a10) ∧ (True)) (fun (f9 : (Nat → Int32)) => [(mo, .inr (7, [.ref ms, .ref mi, .ref ma, .int j3, .ref mts, .ref mtz, .ref mtn, .ref mh, .ref mhn, .ref mhw, .ref mhz, .ref mhr, .ref mcl, .ref mtp, .int j14, .int j15, .int j16, .int j17, .int j18, .int j19, .int j20, .int j21, .int j22, .int j23, .int j24, .ref mna, .ref mpi, .ref mca, .ref mwa, .int j29, .ref mrd])), (ms, .inl (kms, 3047, .inl f9))]) (fun (f9 : (Nat → Int32)) => [(kms, .int)]) := by
  intro sz
  refine Met.ofW (cc := cX7_comes) (maxL := 5) (ret := none) (by decide) rfl ?_
  intro p e s m args below meth c s₁ B hml hv
  obtain ⟨rfl, hC⟩ := hv
  have hx := B.exec
  have hb := B.bytes
  have hr := B.returns
  have hts := atoms_spec (ws := wsX7_comes) B.pre
  have hown : s.vm.findClass RX7 = some m.cls := findClass_of_methodNamed B.named
  have hlk := B.notSynchronized
  have X : CallFix p m c cX7_comes 5 s _ wsX7_comes RX7 := ⟨hx, hb, hml, hown, hts⟩
  have Z := zz_enter hC
  generalize va_A [(mo, .inr (7, [.ref ms, .ref mi, .ref ma, .int j3, .ref mts, .ref mtz, .ref mtn, .ref mh, .ref mhn, .ref mhw, .ref mhz, .ref mhr, .ref mcl, .ref mtp, .int j14, .int j15, .int j16, .int j17, .int j18, .int j19, .int j20, .int j21, .int j22, .int j23, .int j24, .ref mna, .ref mpi, .ref mca, .ref mwa, .int j29, .ref mrd])), (ms, .inl (kms, 3047, .inl f))] sz = A at Z ⊢
  have hl := lv_entry ([.ref mo, .int kk, .int pp, .int yy]) (n := 5) (Nat.le_of_ble_eq_true rfl)
  rw [lg_entry_eq]
  generalize (lg_sl ([.ref mo, .int kk, .int pp, .int yy]) ++ List.replicate (5 - (lg_sl ([.ref mo, .int kk, .int pp, .int yy])).length) Slot.unset).toArray = ls at hl ⊢
  have hl : lv_has ls 5 [(0, .ref mo), (1, .int kk), (2, .int pp), (3, .int yy)] := hl
  refine lv_aload_n hx hb dX7_comes_0 rfl (lv_at hl 0 rfl) ?_
  refine zz_get X Z 0 rfl rfl (fun w h => List.mem_cons_of_mem _ (List.mem_append_right _ h)) 0 rfl (zz_m 1 rfl) rfl dX7_comes_1 ?_
  refine lv_iconst (v := 0) hx hb dX7_comes_4 (by decide) ?_
  refine zz_ild X Z 1 0 rfl rfl (zz_in 0 3047 rfl) dX7_comes_5 ?_
  refine zz_v (v := 2) af_0 ?_
  refine lv_istore (lv' := [(4, .int 2), (0, .ref mo), (1, .int kk), (2, .int pp), (3, .int yy)]) hx hb dX7_comes_6 hl (by decide) rfl (fun ls1 hl2 => ?_)
  clear hl
  refine lv_aload_n hx hb dX7_comes_8 rfl (lv_at hl2 1 rfl) ?_
  refine zz_get X Z 0 rfl rfl (fun w h => List.mem_cons_of_mem _ (List.mem_append_right _ h)) 0 rfl (zz_m 1 rfl) rfl dX7_comes_9 ?_
  refine lv_iconst (v := 0) hx hb dX7_comes_12 (by decide) ?_
  refine lv_dup2_11 hx hb dX7_comes_13 rfl rfl ?_
  refine zz_ild X Z 1 0 rfl rfl (zz_in 0 3047 rfl) dX7_comes_14 ?_
  refine zz_v (v := 2) af_0 ?_
  refine lv_iconst (v := 1) hx hb dX7_comes_15 (by decide) ?_
  refine lv_iadd hx hb dX7_comes_16 ?_
  refine zz_v (v := 3) (by decide) ?_
  refine zz_istN (WS' := fun f1 => [(mo, .inr (7, [.ref ms, .ref mi, .ref ma, .int j3, .ref mts, .ref mtz, .ref mtn, .ref mh, .ref mhn, .ref mhw, .ref mhz, .ref mhr, .ref mcl, .ref mtp, .int j14, .int j15, .int j16, .int j17, .int j18, .int j19, .int j20, .int j21, .int j22, .int j23, .int j24, .ref mna, .ref mpi, .ref mca, .ref mwa, .int j29, .ref mrd])), (ms, .inl (kms, 3047, .inl f1))]) X Z 1 0 rfl rfl (zz_in 0 3047 rfl) dX7_comes_17 (fun _ => rfl) (fun f1 ef2 H3 locs4 Z5 => ?_)
  clear Z
  have p3 : f1 0 = 3 := (by rw [ef2]; rfl)
  have p4 : f1 1 = a1 := (by rw [ef2]; exact af_1)
  have p5 : f1 2 = a2 := (by rw [ef2]; exact af_2)
  have p6 : f1 3 = a3 := (by rw [ef2]; exact af_3)
  have p7 : f1 4 = a4 := (by rw [ef2]; exact af_4)
  have p8 : f1 5 = a5 := (by rw [ef2]; exact af_5)
  have p9 : f1 6 = a6 := (by rw [ef2]; exact af_6)
  have p10 : f1 7 = a7 := (by rw [ef2]; exact af_7)
  have p11 : f1 8 = a8 := (by rw [ef2]; exact af_8)
  have p12 : f1 9 = a9 := (by rw [ef2]; exact af_9)
  have p13 : f1 10 = a10 := (by rw [ef2]; exact af_10)
  refine lv_aload_n hx hb dX7_comes_18 rfl (lv_at hl2 1 rfl) ?_
  refine lv_iload hx hb dX7_comes_19 (lv_at hl2 0 rfl) ?_
  refine lv_iconst (v := 0) hx hb dX7_comes_21 (by decide) ?_
  refine lv_iload_n hx hb dX7_comes_22 rfl (lv_at hl2 2 rfl) ?_
  refine zz_cv (WC := [(mo, .inr (7, [.ref ms, .ref mi, .ref ma, .int j3, .ref mts, .ref mtz, .ref mtn, .ref mh, .ref mhn, .ref mhw, .ref mhz, .ref mhr, .ref mcl, .ref mtp, .int j14, .int j15, .int j16, .int j17, .int j18, .int j19, .int j20, .int j21, .int j22, .int j23, .int j24, .ref mna, .ref mpi, .ref mca, .ref mwa, .int j29, .ref mrd])), (ms, .inl (kms, 3047, .inl f1))]) (TC := [(kms, .int)]) (WR := []) (TR := []) (k := 0) (n := 0) Z5 [0, 1] [] [0] [] rfl rfl (by decide +kernel) (by decide +kernel) (by decide +kernel) rfl rfl (fun Zc => va_runV (As := [.int 2, .int 0, .int kk]) (rest := []) X (c7_sets l D mo ms mi ma mts mtz mtn mh mhn mhw mhz mhr mcl mtp mna mpi mca mwa mrd j3 j14 j15 j16 j17 j18 j19 j20 j21 j22 j23 j24 j29 kms f1 3 a1 a2 a3 a4 a5 a6 a7 a8 a9 a10 2 0 kk p3 p4 p5 p6 p7 p8 p9 p10 p11 p12 p13 (zz_in _ 3047 (by decide)) (by decide) H3.size) (cwV 3 hts gX7_comes_X7_sets rfl rfl rfl ⟨rfl, zh_X7_sets⟩ ⟨Nat.le_of_ble_eq_true rfl, Nat.le_of_ble_eq_true rfl⟩) (zz_pV (ci := 7) Zc 0 rfl rfl) rfl rfl hl2.1 rfl (lv_room (Nat.le_of_ble_eq_true rfl)) dX7_comes_23 ⟨Nat.le_of_ble_eq_true rfl, Nat.le_of_ble_eq_true rfl⟩) rfl rfl (fun u14 H6 locs7 hw15 Z8 => ?_)
  clear Z5
  obtain ⟨f917, rfl⟩ : ∃ z, z = u14 := ⟨_, rfl⟩
  try dsimp only at hw15 Z8
  obtain ⟨⟨p18, p19, p20, p21, p22, p23, p24, p25, p26, p27, p28⟩, hx29⟩ := hw15
  have Z9 : zz_S D A s [(mo, .inr (7, [.ref ms, .ref mi, .ref ma, .int j3, .ref mts, .ref mtz, .ref mtn, .ref mh, .ref mhn, .ref mhw, .ref mhz, .ref mhr, .ref mcl, .ref mtp, .int j14, .int j15, .int j16, .int j17, .int j18, .int j19, .int j20, .int j21, .int j22, .int j23, .int j24, .ref mna, .ref mpi, .ref mca, .ref mwa, .int j29, .ref mrd])), (ms, .inl (kms, 3047, .inl f917))] [(kms, .int)] H6 locs7 := Z8
  clear Z8
  refine lv_aload_n hx hb dX7_comes_26 rfl (lv_at hl2 1 rfl) ?_
  refine lv_iload hx hb dX7_comes_27 (lv_at hl2 0 rfl) ?_
  refine lv_iconst (v := 1) hx hb dX7_comes_29 (by decide) ?_
  refine lv_iload_n hx hb dX7_comes_30 rfl (lv_at hl2 3 rfl) ?_
  refine zz_cv (WC := [(mo, .inr (7, [.ref ms, .ref mi, .ref ma, .int j3, .ref mts, .ref mtz, .ref mtn, .ref mh, .ref mhn, .ref mhw, .ref mhz, .ref mhr, .ref mcl, .ref mtp, .int j14, .int j15, .int j16, .int j17, .int j18, .int j19, .int j20, .int j21, .int j22, .int j23, .int j24, .ref mna, .ref mpi, .ref mca, .ref mwa, .int j29, .ref mrd])), (ms, .inl (kms, 3047, .inl f917))]) (TC := [(kms, .int)]) (WR := []) (TR := []) (k := 0) (n := 0) Z9 [0, 1] [] [0] [] rfl rfl (by decide +kernel) (by decide +kernel) (by decide +kernel) rfl rfl (fun Zc => va_runV (As := [.int 2, .int 1, .int pp]) (rest := []) X (c7_sets l D mo ms mi ma mts mtz mtn mh mhn mhw mhz mhr mcl mtp mna mpi mca mwa mrd j3 j14 j15 j16 j17 j18 j19 j20 j21 j22 j23 j24 j29 kms f917 3 a1 a2 a3 a4 a5 a6 a7 a8 a9 a10 2 1 pp p18 p19 p20 p21 p22 p23 p24 p25 p26 p27 p28 (zz_in _ 3047 (by decide)) (by decide) H6.size) (cwV 3 hts gX7_comes_X7_sets rfl rfl rfl ⟨rfl, zh_X7_sets⟩ ⟨Nat.le_of_ble_eq_true rfl, Nat.le_of_ble_eq_true rfl⟩) (zz_pV (ci := 7) Zc 0 rfl rfl) rfl rfl hl2.1 rfl (lv_room (Nat.le_of_ble_eq_true rfl)) dX7_comes_31 ⟨Nat.le_of_ble_eq_true rfl, Nat.le_of_ble_eq_true rfl⟩) rfl rfl (fun u30 H10 locs11 hw31 Z12 => ?_)
  clear Z9
  obtain ⟨f933, rfl⟩ : ∃ z, z = u30 := ⟨_, rfl⟩
  try dsimp only at hw31 Z12
  obtain ⟨⟨p34, p35, p36, p37, p38, p39, p40, p41, p42, p43, p44⟩, hx45⟩ := hw31
  have Z13 : zz_S D A s [(mo, .inr (7, [.ref ms, .ref mi, .ref ma, .int j3, .ref mts, .ref mtz, .ref mtn, .ref mh, .ref mhn, .ref mhw, .ref mhz, .ref mhr, .ref mcl, .ref mtp, .int j14, .int j15, .int j16, .int j17, .int j18, .int j19, .int j20, .int j21, .int j22, .int j23, .int j24, .ref mna, .ref mpi, .ref mca, .ref mwa, .int j29, .ref mrd])), (ms, .inl (kms, 3047, .inl f933))] [(kms, .int)] H10 locs11 := Z12
  clear Z12
  refine lv_aload_n hx hb dX7_comes_34 rfl (lv_at hl2 1 rfl) ?_
  refine lv_iload hx hb dX7_comes_35 (lv_at hl2 0 rfl) ?_
  refine lv_iconst (v := 2) hx hb dX7_comes_37 (by decide) ?_
  refine lv_bipush (v := 100) hx hb dX7_comes_38 (by decide) ?_
  refine zz_cv (WC := [(mo, .inr (7, [.ref ms, .ref mi, .ref ma, .int j3, .ref mts, .ref mtz, .ref mtn, .ref mh, .ref mhn, .ref mhw, .ref mhz, .ref mhr, .ref mcl, .ref mtp, .int j14, .int j15, .int j16, .int j17, .int j18, .int j19, .int j20, .int j21, .int j22, .int j23, .int j24, .ref mna, .ref mpi, .ref mca, .ref mwa, .int j29, .ref mrd])), (ms, .inl (kms, 3047, .inl f933))]) (TC := [(kms, .int)]) (WR := []) (TR := []) (k := 0) (n := 0) Z13 [0, 1] [] [0] [] rfl rfl (by decide +kernel) (by decide +kernel) (by decide +kernel) rfl rfl (fun Zc => va_runV (As := [.int 2, .int 2, .int 100]) (rest := []) X (c7_sets l D mo ms mi ma mts mtz mtn mh mhn mhw mhz mhr mcl mtp mna mpi mca mwa mrd j3 j14 j15 j16 j17 j18 j19 j20 j21 j22 j23 j24 j29 kms f933 3 a1 a2 a3 a4 a5 a6 a7 a8 a9 a10 2 2 100 p34 p35 p36 p37 p38 p39 p40 p41 p42 p43 p44 (zz_in _ 3047 (by decide)) (by decide) H10.size) (cwV 3 hts gX7_comes_X7_sets rfl rfl rfl ⟨rfl, zh_X7_sets⟩ ⟨Nat.le_of_ble_eq_true rfl, Nat.le_of_ble_eq_true rfl⟩) (zz_pV (ci := 7) Zc 0 rfl rfl) rfl rfl hl2.1 rfl (lv_room (Nat.le_of_ble_eq_true rfl)) dX7_comes_40 ⟨Nat.le_of_ble_eq_true rfl, Nat.le_of_ble_eq_true rfl⟩) rfl rfl (fun u46 H14 locs15 hw47 Z16 => ?_)
  clear Z13
  obtain ⟨f949, rfl⟩ : ∃ z, z = u46 := ⟨_, rfl⟩
  try dsimp only at hw47 Z16
  obtain ⟨⟨p50, p51, p52, p53, p54, p55, p56, p57, p58, p59, p60⟩, hx61⟩ := hw47
  have Z17 : zz_S D A s [(mo, .inr (7, [.ref ms, .ref mi, .ref ma, .int j3, .ref mts, .ref mtz, .ref mtn, .ref mh, .ref mhn, .ref mhw, .ref mhz, .ref mhr, .ref mcl, .ref mtp, .int j14, .int j15, .int j16, .int j17, .int j18, .int j19, .int j20, .int j21, .int j22, .int j23, .int j24, .ref mna, .ref mpi, .ref mca, .ref mwa, .int j29, .ref mrd])), (ms, .inl (kms, 3047, .inl f949))] [(kms, .int)] H14 locs15 := Z16
  clear Z16
  refine lv_aload_n hx hb dX7_comes_43 rfl (lv_at hl2 1 rfl) ?_
  refine lv_iload hx hb dX7_comes_44 (lv_at hl2 0 rfl) ?_
  refine lv_iconst (v := 3) hx hb dX7_comes_46 (by decide) ?_
  refine lv_iload_n hx hb dX7_comes_47 rfl (lv_at hl2 4 rfl) ?_
  refine zz_cv (WC := [(mo, .inr (7, [.ref ms, .ref mi, .ref ma, .int j3, .ref mts, .ref mtz, .ref mtn, .ref mh, .ref mhn, .ref mhw, .ref mhz, .ref mhr, .ref mcl, .ref mtp, .int j14, .int j15, .int j16, .int j17, .int j18, .int j19, .int j20, .int j21, .int j22, .int j23, .int j24, .ref mna, .ref mpi, .ref mca, .ref mwa, .int j29, .ref mrd])), (ms, .inl (kms, 3047, .inl f949))]) (TC := [(kms, .int)]) (WR := []) (TR := []) (k := 0) (n := 0) Z17 [0, 1] [] [0] [] rfl rfl (by decide +kernel) (by decide +kernel) (by decide +kernel) rfl rfl (fun Zc => va_runV (As := [.int 2, .int 3, .int yy]) (rest := []) X (c7_sets l D mo ms mi ma mts mtz mtn mh mhn mhw mhz mhr mcl mtp mna mpi mca mwa mrd j3 j14 j15 j16 j17 j18 j19 j20 j21 j22 j23 j24 j29 kms f949 3 a1 a2 a3 a4 a5 a6 a7 a8 a9 a10 2 3 yy p50 p51 p52 p53 p54 p55 p56 p57 p58 p59 p60 (zz_in _ 3047 (by decide)) (by decide) H14.size) (cwV 3 hts gX7_comes_X7_sets rfl rfl rfl ⟨rfl, zh_X7_sets⟩ ⟨Nat.le_of_ble_eq_true rfl, Nat.le_of_ble_eq_true rfl⟩) (zz_pV (ci := 7) Zc 0 rfl rfl) rfl rfl hl2.1 rfl (lv_room (Nat.le_of_ble_eq_true rfl)) dX7_comes_48 ⟨Nat.le_of_ble_eq_true rfl, Nat.le_of_ble_eq_true rfl⟩) rfl rfl (fun u62 H18 locs19 hw63 Z20 => ?_)
  clear Z17
  obtain ⟨f965, rfl⟩ : ∃ z, z = u62 := ⟨_, rfl⟩
  try dsimp only at hw63 Z20
  obtain ⟨⟨p66, p67, p68, p69, p70, p71, p72, p73, p74, p75, p76⟩, hx77⟩ := hw63
  have Z21 : zz_S D A s [(mo, .inr (7, [.ref ms, .ref mi, .ref ma, .int j3, .ref mts, .ref mtz, .ref mtn, .ref mh, .ref mhn, .ref mhw, .ref mhz, .ref mhr, .ref mcl, .ref mtp, .int j14, .int j15, .int j16, .int j17, .int j18, .int j19, .int j20, .int j21, .int j22, .int j23, .int j24, .ref mna, .ref mpi, .ref mca, .ref mwa, .int j29, .ref mrd])), (ms, .inl (kms, 3047, .inl f965))] [(kms, .int)] H18 locs19 := Z20
  clear Z20
  exact zz_vret X hr hlk Z21 (f965) ⟨⟨p66, p67, p68, p69, p70, p71, p72, p73, p74, p75, p76⟩, trivial⟩ [0, 1] [0] (by decide +kernel) rfl rfl dX7_comes_51

set_option maxHeartbeats 4000000 in
set_option maxRecDepth 100000 in
theorem c7_comes3 (l : Launch) (D : va_G) (mo : Nat) (ms : Nat) (mi : Nat) (ma : Nat) (mts : Nat) (mtz : Nat) (mtn : Nat) (mh : Nat) (mhn : Nat) (mhw : Nat) (mhz : Nat) (mhr : Nat) (mcl : Nat) (mtp : Nat) (mna : Nat) (mpi : Nat) (mca : Nat) (mwa : Nat) (mrd : Nat) (j3 : Int32) (j14 : Int32) (j15 : Int32) (j16 : Int32) (j17 : Int32) (j18 : Int32) (j19 : Int32) (j20 : Int32) (j21 : Int32) (j22 : Int32) (j23 : Int32) (j24 : Int32) (j29 : Int32) (kms : ClassId) (f : (Nat → Int32)) (a1 : Int32) (a2 : Int32) (a3 : Int32) (a4 : Int32) (a5 : Int32) (a6 : Int32) (a7 : Int32) (a8 : Int32) (a9 : Int32) (a10 : Int32) (kk : Int32) (pp : Int32) (yy : Int32) (af_0 : f 0 = 3) (af_1 : f 1 = a1) (af_2 : f 2 = a2) (af_3 : f 3 = a3) (af_4 : f 4 = a4) (af_5 : f 5 = a5) (af_6 : f 6 = a6) (af_7 : f 7 = a7) (af_8 : f 8 = a8) (af_9 : f 9 = a9) (af_10 : f 10 = a10) : zz_MV l yX7_comes wsX7_comes 1 23 0 0 D [.ref mo, .int kk, .int pp, .int yy] [(mo, .inr (7, [.ref ms, .ref mi, .ref ma, .int j3, .ref mts, .ref mtz, .ref mtn, .ref mh, .ref mhn, .ref mhw, .ref mhz, .ref mhr, .ref mcl, .ref mtp, .int j14, .int j15, .int j16, .int j17, .int j18, .int j19, .int j20, .int j21, .int j22, .int j23, .int j24, .ref mna, .ref mpi, .ref mca, .ref mwa, .int j29, .ref mrd])), (ms, .inl (kms, 3047, .inl f))] [(kms, .int)] (fun (f9 : (Nat → Int32)) => (f9 0 = 4 ∧ f9 1 = a1 ∧ f9 2 = a2 ∧ f9 3 = a3 ∧ f9 4 = a4 ∧ f9 5 = a5 ∧ f9 6 = a6 ∧ f9 7 = a7 ∧ f9 8 = a8 ∧ f9 9 = a9 ∧ f9 10 = a10) ∧ (True)) (fun (f9 : (Nat → Int32)) => [(mo, .inr (7, [.ref ms, .ref mi, .ref ma, .int j3, .ref mts, .ref mtz, .ref mtn, .ref mh, .ref mhn, .ref mhw, .ref mhz, .ref mhr, .ref mcl, .ref mtp, .int j14, .int j15, .int j16, .int j17, .int j18, .int j19, .int j20, .int j21, .int j22, .int j23, .int j24, .ref mna, .ref mpi, .ref mca, .ref mwa, .int j29, .ref mrd])), (ms, .inl (kms, 3047, .inl f9))]) (fun (f9 : (Nat → Int32)) => [(kms, .int)]) := by
  intro sz
  refine Met.ofW (cc := cX7_comes) (maxL := 5) (ret := none) (by decide) rfl ?_
  intro p e s m args below meth c s₁ B hml hv
  obtain ⟨rfl, hC⟩ := hv
  have hx := B.exec
  have hb := B.bytes
  have hr := B.returns
  have hts := atoms_spec (ws := wsX7_comes) B.pre
  have hown : s.vm.findClass RX7 = some m.cls := findClass_of_methodNamed B.named
  have hlk := B.notSynchronized
  have X : CallFix p m c cX7_comes 5 s _ wsX7_comes RX7 := ⟨hx, hb, hml, hown, hts⟩
  have Z := zz_enter hC
  generalize va_A [(mo, .inr (7, [.ref ms, .ref mi, .ref ma, .int j3, .ref mts, .ref mtz, .ref mtn, .ref mh, .ref mhn, .ref mhw, .ref mhz, .ref mhr, .ref mcl, .ref mtp, .int j14, .int j15, .int j16, .int j17, .int j18, .int j19, .int j20, .int j21, .int j22, .int j23, .int j24, .ref mna, .ref mpi, .ref mca, .ref mwa, .int j29, .ref mrd])), (ms, .inl (kms, 3047, .inl f))] sz = A at Z ⊢
  have hl := lv_entry ([.ref mo, .int kk, .int pp, .int yy]) (n := 5) (Nat.le_of_ble_eq_true rfl)
  rw [lg_entry_eq]
  generalize (lg_sl ([.ref mo, .int kk, .int pp, .int yy]) ++ List.replicate (5 - (lg_sl ([.ref mo, .int kk, .int pp, .int yy])).length) Slot.unset).toArray = ls at hl ⊢
  have hl : lv_has ls 5 [(0, .ref mo), (1, .int kk), (2, .int pp), (3, .int yy)] := hl
  refine lv_aload_n hx hb dX7_comes_0 rfl (lv_at hl 0 rfl) ?_
  refine zz_get X Z 0 rfl rfl (fun w h => List.mem_cons_of_mem _ (List.mem_append_right _ h)) 0 rfl (zz_m 1 rfl) rfl dX7_comes_1 ?_
  refine lv_iconst (v := 0) hx hb dX7_comes_4 (by decide) ?_
  refine zz_ild X Z 1 0 rfl rfl (zz_in 0 3047 rfl) dX7_comes_5 ?_
  refine zz_v (v := 3) af_0 ?_
  refine lv_istore (lv' := [(4, .int 3), (0, .ref mo), (1, .int kk), (2, .int pp), (3, .int yy)]) hx hb dX7_comes_6 hl (by decide) rfl (fun ls1 hl2 => ?_)
  clear hl
  refine lv_aload_n hx hb dX7_comes_8 rfl (lv_at hl2 1 rfl) ?_
  refine zz_get X Z 0 rfl rfl (fun w h => List.mem_cons_of_mem _ (List.mem_append_right _ h)) 0 rfl (zz_m 1 rfl) rfl dX7_comes_9 ?_
  refine lv_iconst (v := 0) hx hb dX7_comes_12 (by decide) ?_
  refine lv_dup2_11 hx hb dX7_comes_13 rfl rfl ?_
  refine zz_ild X Z 1 0 rfl rfl (zz_in 0 3047 rfl) dX7_comes_14 ?_
  refine zz_v (v := 3) af_0 ?_
  refine lv_iconst (v := 1) hx hb dX7_comes_15 (by decide) ?_
  refine lv_iadd hx hb dX7_comes_16 ?_
  refine zz_v (v := 4) (by decide) ?_
  refine zz_istN (WS' := fun f1 => [(mo, .inr (7, [.ref ms, .ref mi, .ref ma, .int j3, .ref mts, .ref mtz, .ref mtn, .ref mh, .ref mhn, .ref mhw, .ref mhz, .ref mhr, .ref mcl, .ref mtp, .int j14, .int j15, .int j16, .int j17, .int j18, .int j19, .int j20, .int j21, .int j22, .int j23, .int j24, .ref mna, .ref mpi, .ref mca, .ref mwa, .int j29, .ref mrd])), (ms, .inl (kms, 3047, .inl f1))]) X Z 1 0 rfl rfl (zz_in 0 3047 rfl) dX7_comes_17 (fun _ => rfl) (fun f1 ef2 H3 locs4 Z5 => ?_)
  clear Z
  have p3 : f1 0 = 4 := (by rw [ef2]; rfl)
  have p4 : f1 1 = a1 := (by rw [ef2]; exact af_1)
  have p5 : f1 2 = a2 := (by rw [ef2]; exact af_2)
  have p6 : f1 3 = a3 := (by rw [ef2]; exact af_3)
  have p7 : f1 4 = a4 := (by rw [ef2]; exact af_4)
  have p8 : f1 5 = a5 := (by rw [ef2]; exact af_5)
  have p9 : f1 6 = a6 := (by rw [ef2]; exact af_6)
  have p10 : f1 7 = a7 := (by rw [ef2]; exact af_7)
  have p11 : f1 8 = a8 := (by rw [ef2]; exact af_8)
  have p12 : f1 9 = a9 := (by rw [ef2]; exact af_9)
  have p13 : f1 10 = a10 := (by rw [ef2]; exact af_10)
  refine lv_aload_n hx hb dX7_comes_18 rfl (lv_at hl2 1 rfl) ?_
  refine lv_iload hx hb dX7_comes_19 (lv_at hl2 0 rfl) ?_
  refine lv_iconst (v := 0) hx hb dX7_comes_21 (by decide) ?_
  refine lv_iload_n hx hb dX7_comes_22 rfl (lv_at hl2 2 rfl) ?_
  refine zz_cv (WC := [(mo, .inr (7, [.ref ms, .ref mi, .ref ma, .int j3, .ref mts, .ref mtz, .ref mtn, .ref mh, .ref mhn, .ref mhw, .ref mhz, .ref mhr, .ref mcl, .ref mtp, .int j14, .int j15, .int j16, .int j17, .int j18, .int j19, .int j20, .int j21, .int j22, .int j23, .int j24, .ref mna, .ref mpi, .ref mca, .ref mwa, .int j29, .ref mrd])), (ms, .inl (kms, 3047, .inl f1))]) (TC := [(kms, .int)]) (WR := []) (TR := []) (k := 0) (n := 0) Z5 [0, 1] [] [0] [] rfl rfl (by decide +kernel) (by decide +kernel) (by decide +kernel) rfl rfl (fun Zc => va_runV (As := [.int 3, .int 0, .int kk]) (rest := []) X (c7_sets l D mo ms mi ma mts mtz mtn mh mhn mhw mhz mhr mcl mtp mna mpi mca mwa mrd j3 j14 j15 j16 j17 j18 j19 j20 j21 j22 j23 j24 j29 kms f1 4 a1 a2 a3 a4 a5 a6 a7 a8 a9 a10 3 0 kk p3 p4 p5 p6 p7 p8 p9 p10 p11 p12 p13 (zz_in _ 3047 (by decide)) (by decide) H3.size) (cwV 3 hts gX7_comes_X7_sets rfl rfl rfl ⟨rfl, zh_X7_sets⟩ ⟨Nat.le_of_ble_eq_true rfl, Nat.le_of_ble_eq_true rfl⟩) (zz_pV (ci := 7) Zc 0 rfl rfl) rfl rfl hl2.1 rfl (lv_room (Nat.le_of_ble_eq_true rfl)) dX7_comes_23 ⟨Nat.le_of_ble_eq_true rfl, Nat.le_of_ble_eq_true rfl⟩) rfl rfl (fun u14 H6 locs7 hw15 Z8 => ?_)
  clear Z5
  obtain ⟨f917, rfl⟩ : ∃ z, z = u14 := ⟨_, rfl⟩
  try dsimp only at hw15 Z8
  obtain ⟨⟨p18, p19, p20, p21, p22, p23, p24, p25, p26, p27, p28⟩, hx29⟩ := hw15
  have Z9 : zz_S D A s [(mo, .inr (7, [.ref ms, .ref mi, .ref ma, .int j3, .ref mts, .ref mtz, .ref mtn, .ref mh, .ref mhn, .ref mhw, .ref mhz, .ref mhr, .ref mcl, .ref mtp, .int j14, .int j15, .int j16, .int j17, .int j18, .int j19, .int j20, .int j21, .int j22, .int j23, .int j24, .ref mna, .ref mpi, .ref mca, .ref mwa, .int j29, .ref mrd])), (ms, .inl (kms, 3047, .inl f917))] [(kms, .int)] H6 locs7 := Z8
  clear Z8
  refine lv_aload_n hx hb dX7_comes_26 rfl (lv_at hl2 1 rfl) ?_
  refine lv_iload hx hb dX7_comes_27 (lv_at hl2 0 rfl) ?_
  refine lv_iconst (v := 1) hx hb dX7_comes_29 (by decide) ?_
  refine lv_iload_n hx hb dX7_comes_30 rfl (lv_at hl2 3 rfl) ?_
  refine zz_cv (WC := [(mo, .inr (7, [.ref ms, .ref mi, .ref ma, .int j3, .ref mts, .ref mtz, .ref mtn, .ref mh, .ref mhn, .ref mhw, .ref mhz, .ref mhr, .ref mcl, .ref mtp, .int j14, .int j15, .int j16, .int j17, .int j18, .int j19, .int j20, .int j21, .int j22, .int j23, .int j24, .ref mna, .ref mpi, .ref mca, .ref mwa, .int j29, .ref mrd])), (ms, .inl (kms, 3047, .inl f917))]) (TC := [(kms, .int)]) (WR := []) (TR := []) (k := 0) (n := 0) Z9 [0, 1] [] [0] [] rfl rfl (by decide +kernel) (by decide +kernel) (by decide +kernel) rfl rfl (fun Zc => va_runV (As := [.int 3, .int 1, .int pp]) (rest := []) X (c7_sets l D mo ms mi ma mts mtz mtn mh mhn mhw mhz mhr mcl mtp mna mpi mca mwa mrd j3 j14 j15 j16 j17 j18 j19 j20 j21 j22 j23 j24 j29 kms f917 4 a1 a2 a3 a4 a5 a6 a7 a8 a9 a10 3 1 pp p18 p19 p20 p21 p22 p23 p24 p25 p26 p27 p28 (zz_in _ 3047 (by decide)) (by decide) H6.size) (cwV 3 hts gX7_comes_X7_sets rfl rfl rfl ⟨rfl, zh_X7_sets⟩ ⟨Nat.le_of_ble_eq_true rfl, Nat.le_of_ble_eq_true rfl⟩) (zz_pV (ci := 7) Zc 0 rfl rfl) rfl rfl hl2.1 rfl (lv_room (Nat.le_of_ble_eq_true rfl)) dX7_comes_31 ⟨Nat.le_of_ble_eq_true rfl, Nat.le_of_ble_eq_true rfl⟩) rfl rfl (fun u30 H10 locs11 hw31 Z12 => ?_)
  clear Z9
  obtain ⟨f933, rfl⟩ : ∃ z, z = u30 := ⟨_, rfl⟩
  try dsimp only at hw31 Z12
  obtain ⟨⟨p34, p35, p36, p37, p38, p39, p40, p41, p42, p43, p44⟩, hx45⟩ := hw31
  have Z13 : zz_S D A s [(mo, .inr (7, [.ref ms, .ref mi, .ref ma, .int j3, .ref mts, .ref mtz, .ref mtn, .ref mh, .ref mhn, .ref mhw, .ref mhz, .ref mhr, .ref mcl, .ref mtp, .int j14, .int j15, .int j16, .int j17, .int j18, .int j19, .int j20, .int j21, .int j22, .int j23, .int j24, .ref mna, .ref mpi, .ref mca, .ref mwa, .int j29, .ref mrd])), (ms, .inl (kms, 3047, .inl f933))] [(kms, .int)] H10 locs11 := Z12
  clear Z12
  refine lv_aload_n hx hb dX7_comes_34 rfl (lv_at hl2 1 rfl) ?_
  refine lv_iload hx hb dX7_comes_35 (lv_at hl2 0 rfl) ?_
  refine lv_iconst (v := 2) hx hb dX7_comes_37 (by decide) ?_
  refine lv_bipush (v := 100) hx hb dX7_comes_38 (by decide) ?_
  refine zz_cv (WC := [(mo, .inr (7, [.ref ms, .ref mi, .ref ma, .int j3, .ref mts, .ref mtz, .ref mtn, .ref mh, .ref mhn, .ref mhw, .ref mhz, .ref mhr, .ref mcl, .ref mtp, .int j14, .int j15, .int j16, .int j17, .int j18, .int j19, .int j20, .int j21, .int j22, .int j23, .int j24, .ref mna, .ref mpi, .ref mca, .ref mwa, .int j29, .ref mrd])), (ms, .inl (kms, 3047, .inl f933))]) (TC := [(kms, .int)]) (WR := []) (TR := []) (k := 0) (n := 0) Z13 [0, 1] [] [0] [] rfl rfl (by decide +kernel) (by decide +kernel) (by decide +kernel) rfl rfl (fun Zc => va_runV (As := [.int 3, .int 2, .int 100]) (rest := []) X (c7_sets l D mo ms mi ma mts mtz mtn mh mhn mhw mhz mhr mcl mtp mna mpi mca mwa mrd j3 j14 j15 j16 j17 j18 j19 j20 j21 j22 j23 j24 j29 kms f933 4 a1 a2 a3 a4 a5 a6 a7 a8 a9 a10 3 2 100 p34 p35 p36 p37 p38 p39 p40 p41 p42 p43 p44 (zz_in _ 3047 (by decide)) (by decide) H10.size) (cwV 3 hts gX7_comes_X7_sets rfl rfl rfl ⟨rfl, zh_X7_sets⟩ ⟨Nat.le_of_ble_eq_true rfl, Nat.le_of_ble_eq_true rfl⟩) (zz_pV (ci := 7) Zc 0 rfl rfl) rfl rfl hl2.1 rfl (lv_room (Nat.le_of_ble_eq_true rfl)) dX7_comes_40 ⟨Nat.le_of_ble_eq_true rfl, Nat.le_of_ble_eq_true rfl⟩) rfl rfl (fun u46 H14 locs15 hw47 Z16 => ?_)
  clear Z13
  obtain ⟨f949, rfl⟩ : ∃ z, z = u46 := ⟨_, rfl⟩
  try dsimp only at hw47 Z16
  obtain ⟨⟨p50, p51, p52, p53, p54, p55, p56, p57, p58, p59, p60⟩, hx61⟩ := hw47
  have Z17 : zz_S D A s [(mo, .inr (7, [.ref ms, .ref mi, .ref ma, .int j3, .ref mts, .ref mtz, .ref mtn, .ref mh, .ref mhn, .ref mhw, .ref mhz, .ref mhr, .ref mcl, .ref mtp, .int j14, .int j15, .int j16, .int j17, .int j18, .int j19, .int j20, .int j21, .int j22, .int j23, .int j24, .ref mna, .ref mpi, .ref mca, .ref mwa, .int j29, .ref mrd])), (ms, .inl (kms, 3047, .inl f949))] [(kms, .int)] H14 locs15 := Z16
  clear Z16
  refine lv_aload_n hx hb dX7_comes_43 rfl (lv_at hl2 1 rfl) ?_
  refine lv_iload hx hb dX7_comes_44 (lv_at hl2 0 rfl) ?_
  refine lv_iconst (v := 3) hx hb dX7_comes_46 (by decide) ?_
  refine lv_iload_n hx hb dX7_comes_47 rfl (lv_at hl2 4 rfl) ?_
  refine zz_cv (WC := [(mo, .inr (7, [.ref ms, .ref mi, .ref ma, .int j3, .ref mts, .ref mtz, .ref mtn, .ref mh, .ref mhn, .ref mhw, .ref mhz, .ref mhr, .ref mcl, .ref mtp, .int j14, .int j15, .int j16, .int j17, .int j18, .int j19, .int j20, .int j21, .int j22, .int j23, .int j24, .ref mna, .ref mpi, .ref mca, .ref mwa, .int j29, .ref mrd])), (ms, .inl (kms, 3047, .inl f949))]) (TC := [(kms, .int)]) (WR := []) (TR := []) (k := 0) (n := 0) Z17 [0, 1] [] [0] [] rfl rfl (by decide +kernel) (by decide +kernel) (by decide +kernel) rfl rfl (fun Zc => va_runV (As := [.int 3, .int 3, .int yy]) (rest := []) X (c7_sets l D mo ms mi ma mts mtz mtn mh mhn mhw mhz mhr mcl mtp mna mpi mca mwa mrd j3 j14 j15 j16 j17 j18 j19 j20 j21 j22 j23 j24 j29 kms f949 4 a1 a2 a3 a4 a5 a6 a7 a8 a9 a10 3 3 yy p50 p51 p52 p53 p54 p55 p56 p57 p58 p59 p60 (zz_in _ 3047 (by decide)) (by decide) H14.size) (cwV 3 hts gX7_comes_X7_sets rfl rfl rfl ⟨rfl, zh_X7_sets⟩ ⟨Nat.le_of_ble_eq_true rfl, Nat.le_of_ble_eq_true rfl⟩) (zz_pV (ci := 7) Zc 0 rfl rfl) rfl rfl hl2.1 rfl (lv_room (Nat.le_of_ble_eq_true rfl)) dX7_comes_48 ⟨Nat.le_of_ble_eq_true rfl, Nat.le_of_ble_eq_true rfl⟩) rfl rfl (fun u62 H18 locs19 hw63 Z20 => ?_)
  clear Z17
  obtain ⟨f965, rfl⟩ : ∃ z, z = u62 := ⟨_, rfl⟩
  try dsimp only at hw63 Z20
  obtain ⟨⟨p66, p67, p68, p69, p70, p71, p72, p73, p74, p75, p76⟩, hx77⟩ := hw63
  have Z21 : zz_S D A s [(mo, .inr (7, [.ref ms, .ref mi, .ref ma, .int j3, .ref mts, .ref mtz, .ref mtn, .ref mh, .ref mhn, .ref mhw, .ref mhz, .ref mhr, .ref mcl, .ref mtp, .int j14, .int j15, .int j16, .int j17, .int j18, .int j19, .int j20, .int j21, .int j22, .int j23, .int j24, .ref mna, .ref mpi, .ref mca, .ref mwa, .int j29, .ref mrd])), (ms, .inl (kms, 3047, .inl f965))] [(kms, .int)] H18 locs19 := Z20
  clear Z20
  exact zz_vret X hr hlk Z21 (f965) ⟨⟨p66, p67, p68, p69, p70, p71, p72, p73, p74, p75, p76⟩, trivial⟩ [0, 1] [0] (by decide +kernel) rfl rfl dX7_comes_51

set_option maxHeartbeats 4000000 in
set_option maxRecDepth 100000 in
theorem c7_comes4 (l : Launch) (D : va_G) (mo : Nat) (ms : Nat) (mi : Nat) (ma : Nat) (mts : Nat) (mtz : Nat) (mtn : Nat) (mh : Nat) (mhn : Nat) (mhw : Nat) (mhz : Nat) (mhr : Nat) (mcl : Nat) (mtp : Nat) (mna : Nat) (mpi : Nat) (mca : Nat) (mwa : Nat) (mrd : Nat) (j3 : Int32) (j14 : Int32) (j15 : Int32) (j16 : Int32) (j17 : Int32) (j18 : Int32) (j19 : Int32) (j20 : Int32) (j21 : Int32) (j22 : Int32) (j23 : Int32) (j24 : Int32) (j29 : Int32) (kms : ClassId) (f : (Nat → Int32)) (a1 : Int32) (a2 : Int32) (a3 : Int32) (a4 : Int32) (a5 : Int32) (a6 : Int32) (a7 : Int32) (a8 : Int32) (a9 : Int32) (a10 : Int32) (kk : Int32) (pp : Int32) (yy : Int32) (af_0 : f 0 = 4) (af_1 : f 1 = a1) (af_2 : f 2 = a2) (af_3 : f 3 = a3) (af_4 : f 4 = a4) (af_5 : f 5 = a5) (af_6 : f 6 = a6) (af_7 : f 7 = a7) (af_8 : f 8 = a8) (af_9 : f 9 = a9) (af_10 : f 10 = a10) : zz_MV l yX7_comes wsX7_comes 1 23 0 0 D [.ref mo, .int kk, .int pp, .int yy] [(mo, .inr (7, [.ref ms, .ref mi, .ref ma, .int j3, .ref mts, .ref mtz, .ref mtn, .ref mh, .ref mhn, .ref mhw, .ref mhz, .ref mhr, .ref mcl, .ref mtp, .int j14, .int j15, .int j16, .int j17, .int j18, .int j19, .int j20, .int j21, .int j22, .int j23, .int j24, .ref mna, .ref mpi, .ref mca, .ref mwa, .int j29, .ref mrd])), (ms, .inl (kms, 3047, .inl f))] [(kms, .int)] (fun (f9 : (Nat → Int32)) => (f9 0 = 5 ∧ f9 1 = a1 ∧ f9 2 = a2 ∧ f9 3 = a3 ∧ f9 4 = a4 ∧ f9 5 = a5 ∧ f9 6 = a6 ∧ f9 7 = a7 ∧ f9 8 = a8 ∧ f9 9 = a9 ∧ f9 10 = a10) ∧ (True)) (fun (f9 : (Nat → Int32)) => [(mo, .inr (7, [.ref ms, .ref mi, .ref ma, .int j3, .ref mts, .ref mtz, .ref mtn, .ref mh, .ref mhn, .ref mhw, .ref mhz, .ref mhr, .ref mcl, .ref mtp, .int j14, .int j15, .int j16, .int j17, .int j18, .int j19, .int j20, .int j21, .int j22, .int j23, .int j24, .ref mna, .ref mpi, .ref mca, .ref mwa, .int j29, .ref mrd])), (ms, .inl (kms, 3047, .inl f9))]) (fun (f9 : (Nat → Int32)) => [(kms, .int)]) := by
  intro sz
  refine Met.ofW (cc := cX7_comes) (maxL := 5) (ret := none) (by decide) rfl ?_
  intro p e s m args below meth c s₁ B hml hv
  obtain ⟨rfl, hC⟩ := hv
  have hx := B.exec
  have hb := B.bytes
  have hr := B.returns
  have hts := atoms_spec (ws := wsX7_comes) B.pre
  have hown : s.vm.findClass RX7 = some m.cls := findClass_of_methodNamed B.named
  have hlk := B.notSynchronized
  have X : CallFix p m c cX7_comes 5 s _ wsX7_comes RX7 := ⟨hx, hb, hml, hown, hts⟩
  have Z := zz_enter hC
  generalize va_A [(mo, .inr (7, [.ref ms, .ref mi, .ref ma, .int j3, .ref mts, .ref mtz, .ref mtn, .ref mh, .ref mhn, .ref mhw, .ref mhz, .ref mhr, .ref mcl, .ref mtp, .int j14, .int j15, .int j16, .int j17, .int j18, .int j19, .int j20, .int j21, .int j22, .int j23, .int j24, .ref mna, .ref mpi, .ref mca, .ref mwa, .int j29, .ref mrd])), (ms, .inl (kms, 3047, .inl f))] sz = A at Z ⊢
  have hl := lv_entry ([.ref mo, .int kk, .int pp, .int yy]) (n := 5) (Nat.le_of_ble_eq_true rfl)
  rw [lg_entry_eq]
  generalize (lg_sl ([.ref mo, .int kk, .int pp, .int yy]) ++ List.replicate (5 - (lg_sl ([.ref mo, .int kk, .int pp, .int yy])).length) Slot.unset).toArray = ls at hl ⊢
  have hl : lv_has ls 5 [(0, .ref mo), (1, .int kk), (2, .int pp), (3, .int yy)] := hl
  refine lv_aload_n hx hb dX7_comes_0 rfl (lv_at hl 0 rfl) ?_
  refine zz_get X Z 0 rfl rfl (fun w h => List.mem_cons_of_mem _ (List.mem_append_right _ h)) 0 rfl (zz_m 1 rfl) rfl dX7_comes_1 ?_
  refine lv_iconst (v := 0) hx hb dX7_comes_4 (by decide) ?_
  refine zz_ild X Z 1 0 rfl rfl (zz_in 0 3047 rfl) dX7_comes_5 ?_
  refine zz_v (v := 4) af_0 ?_
  refine lv_istore (lv' := [(4, .int 4), (0, .ref mo), (1, .int kk), (2, .int pp), (3, .int yy)]) hx hb dX7_comes_6 hl (by decide) rfl (fun ls1 hl2 => ?_)
  clear hl
  refine lv_aload_n hx hb dX7_comes_8 rfl (lv_at hl2 1 rfl) ?_
  refine zz_get X Z 0 rfl rfl (fun w h => List.mem_cons_of_mem _ (List.mem_append_right _ h)) 0 rfl (zz_m 1 rfl) rfl dX7_comes_9 ?_
  refine lv_iconst (v := 0) hx hb dX7_comes_12 (by decide) ?_
  refine lv_dup2_11 hx hb dX7_comes_13 rfl rfl ?_
  refine zz_ild X Z 1 0 rfl rfl (zz_in 0 3047 rfl) dX7_comes_14 ?_
  refine zz_v (v := 4) af_0 ?_
  refine lv_iconst (v := 1) hx hb dX7_comes_15 (by decide) ?_
  refine lv_iadd hx hb dX7_comes_16 ?_
  refine zz_v (v := 5) (by decide) ?_
  refine zz_istN (WS' := fun f1 => [(mo, .inr (7, [.ref ms, .ref mi, .ref ma, .int j3, .ref mts, .ref mtz, .ref mtn, .ref mh, .ref mhn, .ref mhw, .ref mhz, .ref mhr, .ref mcl, .ref mtp, .int j14, .int j15, .int j16, .int j17, .int j18, .int j19, .int j20, .int j21, .int j22, .int j23, .int j24, .ref mna, .ref mpi, .ref mca, .ref mwa, .int j29, .ref mrd])), (ms, .inl (kms, 3047, .inl f1))]) X Z 1 0 rfl rfl (zz_in 0 3047 rfl) dX7_comes_17 (fun _ => rfl) (fun f1 ef2 H3 locs4 Z5 => ?_)
  clear Z
  have p3 : f1 0 = 5 := (by rw [ef2]; rfl)
  have p4 : f1 1 = a1 := (by rw [ef2]; exact af_1)
  have p5 : f1 2 = a2 := (by rw [ef2]; exact af_2)
  have p6 : f1 3 = a3 := (by rw [ef2]; exact af_3)
  have p7 : f1 4 = a4 := (by rw [ef2]; exact af_4)
  have p8 : f1 5 = a5 := (by rw [ef2]; exact af_5)
  have p9 : f1 6 = a6 := (by rw [ef2]; exact af_6)
  have p10 : f1 7 = a7 := (by rw [ef2]; exact af_7)
  have p11 : f1 8 = a8 := (by rw [ef2]; exact af_8)
  have p12 : f1 9 = a9 := (by rw [ef2]; exact af_9)
  have p13 : f1 10 = a10 := (by rw [ef2]; exact af_10)
  refine lv_aload_n hx hb dX7_comes_18 rfl (lv_at hl2 1 rfl) ?_
  refine lv_iload hx hb dX7_comes_19 (lv_at hl2 0 rfl) ?_
  refine lv_iconst (v := 0) hx hb dX7_comes_21 (by decide) ?_
  refine lv_iload_n hx hb dX7_comes_22 rfl (lv_at hl2 2 rfl) ?_
  refine zz_cv (WC := [(mo, .inr (7, [.ref ms, .ref mi, .ref ma, .int j3, .ref mts, .ref mtz, .ref mtn, .ref mh, .ref mhn, .ref mhw, .ref mhz, .ref mhr, .ref mcl, .ref mtp, .int j14, .int j15, .int j16, .int j17, .int j18, .int j19, .int j20, .int j21, .int j22, .int j23, .int j24, .ref mna, .ref mpi, .ref mca, .ref mwa, .int j29, .ref mrd])), (ms, .inl (kms, 3047, .inl f1))]) (TC := [(kms, .int)]) (WR := []) (TR := []) (k := 0) (n := 0) Z5 [0, 1] [] [0] [] rfl rfl (by decide +kernel) (by decide +kernel) (by decide +kernel) rfl rfl (fun Zc => va_runV (As := [.int 4, .int 0, .int kk]) (rest := []) X (c7_sets l D mo ms mi ma mts mtz mtn mh mhn mhw mhz mhr mcl mtp mna mpi mca mwa mrd j3 j14 j15 j16 j17 j18 j19 j20 j21 j22 j23 j24 j29 kms f1 5 a1 a2 a3 a4 a5 a6 a7 a8 a9 a10 4 0 kk p3 p4 p5 p6 p7 p8 p9 p10 p11 p12 p13 (zz_in _ 3047 (by decide)) (by decide) H3.size) (cwV 3 hts gX7_comes_X7_sets rfl rfl rfl ⟨rfl, zh_X7_sets⟩ ⟨Nat.le_of_ble_eq_true rfl, Nat.le_of_ble_eq_true rfl⟩) (zz_pV (ci := 7) Zc 0 rfl rfl) rfl rfl hl2.1 rfl (lv_room (Nat.le_of_ble_eq_true rfl)) dX7_comes_23 ⟨Nat.le_of_ble_eq_true rfl, Nat.le_of_ble_eq_true rfl⟩) rfl rfl (fun u14 H6 locs7 hw15 Z8 => ?_)
  clear Z5
  obtain ⟨f917, rfl⟩ : ∃ z, z = u14 := ⟨_, rfl⟩
  try dsimp only at hw15 Z8
  obtain ⟨⟨p18, p19, p20, p21, p22, p23, p24, p25, p26, p27, p28⟩, hx29⟩ := hw15
  have Z9 : zz_S D A s [(mo, .inr (7, [.ref ms, .ref mi, .ref ma, .int j3, .ref mts, .ref mtz, .ref mtn, .ref mh, .ref mhn, .ref mhw, .ref mhz, .ref mhr, .ref mcl, .ref mtp, .int j14, .int j15, .int j16, .int j17, .int j18, .int j19, .int j20, .int j21, .int j22, .int j23, .int j24, .ref mna, .ref mpi, .ref mca, .ref mwa, .int j29, .ref mrd])), (ms, .inl (kms, 3047, .inl f917))] [(kms, .int)] H6 locs7 := Z8
  clear Z8
  refine lv_aload_n hx hb dX7_comes_26 rfl (lv_at hl2 1 rfl) ?_
  refine lv_iload hx hb dX7_comes_27 (lv_at hl2 0 rfl) ?_
  refine lv_iconst (v := 1) hx hb dX7_comes_29 (by decide) ?_
  refine lv_iload_n hx hb dX7_comes_30 rfl (lv_at hl2 3 rfl) ?_
  refine zz_cv (WC := [(mo, .inr (7, [.ref ms, .ref mi, .ref ma, .int j3, .ref mts, .ref mtz, .ref mtn, .ref mh, .ref mhn, .ref mhw, .ref mhz, .ref mhr, .ref mcl, .ref mtp, .int j14, .int j15, .int j16, .int j17, .int j18, .int j19, .int j20, .int j21, .int j22, .int j23, .int j24, .ref mna, .ref mpi, .ref mca, .ref mwa, .int j29, .ref mrd])), (ms, .inl (kms, 3047, .inl f917))]) (TC := [(kms, .int)]) (WR := []) (TR := []) (k := 0) (n := 0) Z9 [0, 1] [] [0] [] rfl rfl (by decide +kernel) (by decide +kernel) (by decide +kernel) rfl rfl (fun Zc => va_runV (As := [.int 4, .int 1, .int pp]) (rest := []) X (c7_sets l D mo ms mi ma mts mtz mtn mh mhn mhw mhz mhr mcl mtp mna mpi mca mwa mrd j3 j14 j15 j16 j17 j18 j19 j20 j21 j22 j23 j24 j29 kms f917 5 a1 a2 a3 a4 a5 a6 a7 a8 a9 a10 4 1 pp p18 p19 p20 p21 p22 p23 p24 p25 p26 p27 p28 (zz_in _ 3047 (by decide)) (by decide) H6.size) (cwV 3 hts gX7_comes_X7_sets rfl rfl rfl ⟨rfl, zh_X7_sets⟩ ⟨Nat.le_of_ble_eq_true rfl, Nat.le_of_ble_eq_true rfl⟩) (zz_pV (ci := 7) Zc 0 rfl rfl) rfl rfl hl2.1 rfl (lv_room (Nat.le_of_ble_eq_true rfl)) dX7_comes_31 ⟨Nat.le_of_ble_eq_true rfl, Nat.le_of_ble_eq_true rfl⟩) rfl rfl (fun u30 H10 locs11 hw31 Z12 => ?_)
  clear Z9
  obtain ⟨f933, rfl⟩ : ∃ z, z = u30 := ⟨_, rfl⟩
  try dsimp only at hw31 Z12
  obtain ⟨⟨p34, p35, p36, p37, p38, p39, p40, p41, p42, p43, p44⟩, hx45⟩ := hw31
  have Z13 : zz_S D A s [(mo, .inr (7, [.ref ms, .ref mi, .ref ma, .int j3, .ref mts, .ref mtz, .ref mtn, .ref mh, .ref mhn, .ref mhw, .ref mhz, .ref mhr, .ref mcl, .ref mtp, .int j14, .int j15, .int j16, .int j17, .int j18, .int j19, .int j20, .int j21, .int j22, .int j23, .int j24, .ref mna, .ref mpi, .ref mca, .ref mwa, .int j29, .ref mrd])), (ms, .inl (kms, 3047, .inl f933))] [(kms, .int)] H10 locs11 := Z12
  clear Z12
  refine lv_aload_n hx hb dX7_comes_34 rfl (lv_at hl2 1 rfl) ?_
  refine lv_iload hx hb dX7_comes_35 (lv_at hl2 0 rfl) ?_
  refine lv_iconst (v := 2) hx hb dX7_comes_37 (by decide) ?_
  refine lv_bipush (v := 100) hx hb dX7_comes_38 (by decide) ?_
  refine zz_cv (WC := [(mo, .inr (7, [.ref ms, .ref mi, .ref ma, .int j3, .ref mts, .ref mtz, .ref mtn, .ref mh, .ref mhn, .ref mhw, .ref mhz, .ref mhr, .ref mcl, .ref mtp, .int j14, .int j15, .int j16, .int j17, .int j18, .int j19, .int j20, .int j21, .int j22, .int j23, .int j24, .ref mna, .ref mpi, .ref mca, .ref mwa, .int j29, .ref mrd])), (ms, .inl (kms, 3047, .inl f933))]) (TC := [(kms, .int)]) (WR := []) (TR := []) (k := 0) (n := 0) Z13 [0, 1] [] [0] [] rfl rfl (by decide +kernel) (by decide +kernel) (by decide +kernel) rfl rfl (fun Zc => va_runV (As := [.int 4, .int 2, .int 100]) (rest := []) X (c7_sets l D mo ms mi ma mts mtz mtn mh mhn mhw mhz mhr mcl mtp mna mpi mca mwa mrd j3 j14 j15 j16 j17 j18 j19 j20 j21 j22 j23 j24 j29 kms f933 5 a1 a2 a3 a4 a5 a6 a7 a8 a9 a10 4 2 100 p34 p35 p36 p37 p38 p39 p40 p41 p42 p43 p44 (zz_in _ 3047 (by decide)) (by decide) H10.size) (cwV 3 hts gX7_comes_X7_sets rfl rfl rfl ⟨rfl, zh_X7_sets⟩ ⟨Nat.le_of_ble_eq_true rfl, Nat.le_of_ble_eq_true rfl⟩) (zz_pV (ci := 7) Zc 0 rfl rfl) rfl rfl hl2.1 rfl (lv_room (Nat.le_of_ble_eq_true rfl)) dX7_comes_40 ⟨Nat.le_of_ble_eq_true rfl, Nat.le_of_ble_eq_true rfl⟩) rfl rfl (fun u46 H14 locs15 hw47 Z16 => ?_)
  clear Z13
  obtain ⟨f949, rfl⟩ : ∃ z, z = u46 := ⟨_, rfl⟩
  try dsimp only at hw47 Z16
  obtain ⟨⟨p50, p51, p52, p53, p54, p55, p56, p57, p58, p59, p60⟩, hx61⟩ := hw47
  have Z17 : zz_S D A s [(mo, .inr (7, [.ref ms, .ref mi, .ref ma, .int j3, .ref mts, .ref mtz, .ref mtn, .ref mh, .ref mhn, .ref mhw, .ref mhz, .ref mhr, .ref mcl, .ref mtp, .int j14, .int j15, .int j16, .int j17, .int j18, .int j19, .int j20, .int j21, .int j22, .int j23, .int j24, .ref mna, .ref mpi, .ref mca, .ref mwa, .int j29, .ref mrd])), (ms, .inl (kms, 3047, .inl f949))] [(kms, .int)] H14 locs15 := Z16
  clear Z16
  refine lv_aload_n hx hb dX7_comes_43 rfl (lv_at hl2 1 rfl) ?_
  refine lv_iload hx hb dX7_comes_44 (lv_at hl2 0 rfl) ?_
  refine lv_iconst (v := 3) hx hb dX7_comes_46 (by decide) ?_
  refine lv_iload_n hx hb dX7_comes_47 rfl (lv_at hl2 4 rfl) ?_
  refine zz_cv (WC := [(mo, .inr (7, [.ref ms, .ref mi, .ref ma, .int j3, .ref mts, .ref mtz, .ref mtn, .ref mh, .ref mhn, .ref mhw, .ref mhz, .ref mhr, .ref mcl, .ref mtp, .int j14, .int j15, .int j16, .int j17, .int j18, .int j19, .int j20, .int j21, .int j22, .int j23, .int j24, .ref mna, .ref mpi, .ref mca, .ref mwa, .int j29, .ref mrd])), (ms, .inl (kms, 3047, .inl f949))]) (TC := [(kms, .int)]) (WR := []) (TR := []) (k := 0) (n := 0) Z17 [0, 1] [] [0] [] rfl rfl (by decide +kernel) (by decide +kernel) (by decide +kernel) rfl rfl (fun Zc => va_runV (As := [.int 4, .int 3, .int yy]) (rest := []) X (c7_sets l D mo ms mi ma mts mtz mtn mh mhn mhw mhz mhr mcl mtp mna mpi mca mwa mrd j3 j14 j15 j16 j17 j18 j19 j20 j21 j22 j23 j24 j29 kms f949 5 a1 a2 a3 a4 a5 a6 a7 a8 a9 a10 4 3 yy p50 p51 p52 p53 p54 p55 p56 p57 p58 p59 p60 (zz_in _ 3047 (by decide)) (by decide) H14.size) (cwV 3 hts gX7_comes_X7_sets rfl rfl rfl ⟨rfl, zh_X7_sets⟩ ⟨Nat.le_of_ble_eq_true rfl, Nat.le_of_ble_eq_true rfl⟩) (zz_pV (ci := 7) Zc 0 rfl rfl) rfl rfl hl2.1 rfl (lv_room (Nat.le_of_ble_eq_true rfl)) dX7_comes_48 ⟨Nat.le_of_ble_eq_true rfl, Nat.le_of_ble_eq_true rfl⟩) rfl rfl (fun u62 H18 locs19 hw63 Z20 => ?_)
  clear Z17
  obtain ⟨f965, rfl⟩ : ∃ z, z = u62 := ⟨_, rfl⟩
  try dsimp only at hw63 Z20
  obtain ⟨⟨p66, p67, p68, p69, p70, p71, p72, p73, p74, p75, p76⟩, hx77⟩ := hw63
  have Z21 : zz_S D A s [(mo, .inr (7, [.ref ms, .ref mi, .ref ma, .int j3, .ref mts, .ref mtz, .ref mtn, .ref mh, .ref mhn, .ref mhw, .ref mhz, .ref mhr, .ref mcl, .ref mtp, .int j14, .int j15, .int j16, .int j17, .int j18, .int j19, .int j20, .int j21, .int j22, .int j23, .int j24, .ref mna, .ref mpi, .ref mca, .ref mwa, .int j29, .ref mrd])), (ms, .inl (kms, 3047, .inl f965))] [(kms, .int)] H18 locs19 := Z20
  clear Z20
  exact zz_vret X hr hlk Z21 (f965) ⟨⟨p66, p67, p68, p69, p70, p71, p72, p73, p74, p75, p76⟩, trivial⟩ [0, 1] [0] (by decide +kernel) rfl rfl dX7_comes_51

set_option maxHeartbeats 4000000 in
set_option maxRecDepth 100000 in
theorem c7_comes5 (l : Launch) (D : va_G) (mo : Nat) (ms : Nat) (mi : Nat) (ma : Nat) (mts : Nat) (mtz : Nat) (mtn : Nat) (mh : Nat) (mhn : Nat) (mhw : Nat) (mhz : Nat) (mhr : Nat) (mcl : Nat) (mtp : Nat) (mna : Nat) (mpi : Nat) (mca : Nat) (mwa : Nat) (mrd : Nat) (j3 : Int32) (j14 : Int32) (j15 : Int32) (j16 : Int32) (j17 : Int32) (j18 : Int32) (j19 : Int32) (j20 : Int32) (j21 : Int32) (j22 : Int32) (j23 : Int32) (j24 : Int32) (j29 : Int32) (kms : ClassId) (f : (Nat → Int32)) (a1 : Int32) (a2 : Int32) (a3 : Int32) (a4 : Int32) (a5 : Int32) (a6 : Int32) (a7 : Int32) (a8 : Int32) (a9 : Int32) (a10 : Int32) (kk : Int32) (pp : Int32) (yy : Int32) (af_0 : f 0 = 5) (af_1 : f 1 = a1) (af_2 : f 2 = a2) (af_3 : f 3 = a3) (af_4 : f 4 = a4) (af_5 : f 5 = a5) (af_6 : f 6 = a6) (af_7 : f 7 = a7) (af_8 : f 8 = a8) (af_9 : f 9 = a9) (af_10 : f 10 = a10) : zz_MV l yX7_comes wsX7_comes 1 23 0 0 D [.ref mo, .int kk, .int pp, .int yy] [(mo, .inr (7, [.ref ms, .ref mi, .ref ma, .int j3, .ref mts, .ref mtz, .ref mtn, .ref mh, .ref mhn, .ref mhw, .ref mhz, .ref mhr, .ref mcl, .ref mtp, .int j14, .int j15, .int j16, .int j17, .int j18, .int j19, .int j20, .int j21, .int j22, .int j23, .int j24, .ref mna, .ref mpi, .ref mca, .ref mwa, .int j29, .ref mrd])), (ms, .inl (kms, 3047, .inl f))] [(kms, .int)] (fun (f9 : (Nat → Int32)) => (f9 0 = 6 ∧ f9 1 = a1 ∧ f9 2 = a2 ∧ f9 3 = a3 ∧ f9 4 = a4 ∧ f9 5 = a5 ∧ f9 6 = a6 ∧ f9 7 = a7 ∧ f9 8 = a8 ∧ f9 9 = a9 ∧ f9 10 = a10) ∧ (True)) (fun (f9 : (Nat → Int32)) => [(mo, .inr (7, [.ref ms, .ref mi, .ref ma, .int j3, .ref mts, .ref mtz, .ref mtn, .ref mh, .ref mhn, .ref mhw, .ref mhz, .ref mhr, .ref mcl, .ref mtp, .int j14, .int j15, .int j16, .int j17, .int j18, .int j19, .int j20, .int j21, .int j22, .int j23, .int j24, .ref mna, .ref mpi, .ref mca, .ref mwa, .int j29, .ref mrd])), (ms, .inl (kms, 3047, .inl f9))]) (fun (f9 : (Nat → Int32)) => [(kms, .int)]) := by
  intro sz
  refine Met.ofW (cc := cX7_comes) (maxL := 5) (ret := none) (by decide) rfl ?_
  intro p e s m args below meth c s₁ B hml hv
  obtain ⟨rfl, hC⟩ := hv
  have hx := B.exec
  have hb := B.bytes
  have hr := B.returns
  have hts := atoms_spec (ws := wsX7_comes) B.pre
  have hown : s.vm.findClass RX7 = some m.cls := findClass_of_methodNamed B.named
  have hlk := B.notSynchronized
  have X : CallFix p m c cX7_comes 5 s _ wsX7_comes RX7 := ⟨hx, hb, hml, hown, hts⟩
  have Z := zz_enter hC
  generalize va_A [(mo, .inr (7, [.ref ms, .ref mi, .ref ma, .int j3, .ref mts, .ref mtz, .ref mtn, .ref mh, .ref mhn, .ref mhw, .ref mhz, .ref mhr, .ref mcl, .ref mtp, .int j14, .int j15, .int j16, .int j17, .int j18, .int j19, .int j20, .int j21, .int j22, .int j23, .int j24, .ref mna, .ref mpi, .ref mca, .ref mwa, .int j29, .ref mrd])), (ms, .inl (kms, 3047, .inl f))] sz = A at Z ⊢
  have hl := lv_entry ([.ref mo, .int kk, .int pp, .int yy]) (n := 5) (Nat.le_of_ble_eq_true rfl)
  rw [lg_entry_eq]
  generalize (lg_sl ([.ref mo, .int kk, .int pp, .int yy]) ++ List.replicate (5 - (lg_sl ([.ref mo, .int kk, .int pp, .int yy])).length) Slot.unset).toArray = ls at hl ⊢
  have hl : lv_has ls 5 [(0, .ref mo), (1, .int kk), (2, .int pp), (3, .int yy)] := hl
  refine lv_aload_n hx hb dX7_comes_0 rfl (lv_at hl 0 rfl) ?_
  refine zz_get X Z 0 rfl rfl (fun w h => List.mem_cons_of_mem _ (List.mem_append_right _ h)) 0 rfl (zz_m 1 rfl) rfl dX7_comes_1 ?_
  refine lv_iconst (v := 0) hx hb dX7_comes_4 (by decide) ?_
  refine zz_ild X Z 1 0 rfl rfl (zz_in 0 3047 rfl) dX7_comes_5 ?_
  refine zz_v (v := 5) af_0 ?_
  refine lv_istore (lv' := [(4, .int 5), (0, .ref mo), (1, .int kk), (2, .int pp), (3, .int yy)]) hx hb dX7_comes_6 hl (by decide) rfl (fun ls1 hl2 => ?_)
  clear hl
  refine lv_aload_n hx hb dX7_comes_8 rfl (lv_at hl2 1 rfl) ?_
  refine zz_get X Z 0 rfl rfl (fun w h => List.mem_cons_of_mem _ (List.mem_append_right _ h)) 0 rfl (zz_m 1 rfl) rfl dX7_comes_9 ?_
  refine lv_iconst (v := 0) hx hb dX7_comes_12 (by decide) ?_
  refine lv_dup2_11 hx hb dX7_comes_13 rfl rfl ?_
  refine zz_ild X Z 1 0 rfl rfl (zz_in 0 3047 rfl) dX7_comes_14 ?_
  refine zz_v (v := 5) af_0 ?_
  refine lv_iconst (v := 1) hx hb dX7_comes_15 (by decide) ?_
  refine lv_iadd hx hb dX7_comes_16 ?_
  refine zz_v (v := 6) (by decide) ?_
  refine zz_istN (WS' := fun f1 => [(mo, .inr (7, [.ref ms, .ref mi, .ref ma, .int j3, .ref mts, .ref mtz, .ref mtn, .ref mh, .ref mhn, .ref mhw, .ref mhz, .ref mhr, .ref mcl, .ref mtp, .int j14, .int j15, .int j16, .int j17, .int j18, .int j19, .int j20, .int j21, .int j22, .int j23, .int j24, .ref mna, .ref mpi, .ref mca, .ref mwa, .int j29, .ref mrd])), (ms, .inl (kms, 3047, .inl f1))]) X Z 1 0 rfl rfl (zz_in 0 3047 rfl) dX7_comes_17 (fun _ => rfl) (fun f1 ef2 H3 locs4 Z5 => ?_)
  clear Z
  have p3 : f1 0 = 6 := (by rw [ef2]; rfl)
  have p4 : f1 1 = a1 := (by rw [ef2]; exact af_1)
  have p5 : f1 2 = a2 := (by rw [ef2]; exact af_2)
  have p6 : f1 3 = a3 := (by rw [ef2]; exact af_3)
  have p7 : f1 4 = a4 := (by rw [ef2]; exact af_4)
  have p8 : f1 5 = a5 := (by rw [ef2]; exact af_5)
  have p9 : f1 6 = a6 := (by rw [ef2]; exact af_6)
  have p10 : f1 7 = a7 := (by rw [ef2]; exact af_7)
  have p11 : f1 8 = a8 := (by rw [ef2]; exact af_8)
  have p12 : f1 9 = a9 := (by rw [ef2]; exact af_9)
  have p13 : f1 10 = a10 := (by rw [ef2]; exact af_10)
  refine lv_aload_n hx hb dX7_comes_18 rfl (lv_at hl2 1 rfl) ?_
  refine lv_iload hx hb dX7_comes_19 (lv_at hl2 0 rfl) ?_
  refine lv_iconst (v := 0) hx hb dX7_comes_21 (by decide) ?_
  refine lv_iload_n hx hb dX7_comes_22 rfl (lv_at hl2 2 rfl) ?_
  refine zz_cv (WC := [(mo, .inr (7, [.ref ms, .ref mi, .ref ma, .int j3, .ref mts, .ref mtz, .ref mtn, .ref mh, .ref mhn, .ref mhw, .ref mhz, .ref mhr, .ref mcl, .ref mtp, .int j14, .int j15, .int j16, .int j17, .int j18, .int j19, .int j20, .int j21, .int j22, .int j23, .int j24, .ref mna, .ref mpi, .ref mca, .ref mwa, .int j29, .ref mrd])), (ms, .inl (kms, 3047, .inl f1))]) (TC := [(kms, .int)]) (WR := []) (TR := []) (k := 0) (n := 0) Z5 [0, 1] [] [0] [] rfl rfl (by decide +kernel) (by decide +kernel) (by decide +kernel) rfl rfl (fun Zc => va_runV (As := [.int 5, .int 0, .int kk]) (rest := []) X (c7_sets l D mo ms mi ma mts mtz mtn mh mhn mhw mhz mhr mcl mtp mna mpi mca mwa mrd j3 j14 j15 j16 j17 j18 j19 j20 j21 j22 j23 j24 j29 kms f1 6 a1 a2 a3 a4 a5 a6 a7 a8 a9 a10 5 0 kk p3 p4 p5 p6 p7 p8 p9 p10 p11 p12 p13 (zz_in _ 3047 (by decide)) (by decide) H3.size) (cwV 3 hts gX7_comes_X7_sets rfl rfl rfl ⟨rfl, zh_X7_sets⟩ ⟨Nat.le_of_ble_eq_true rfl, Nat.le_of_ble_eq_true rfl⟩) (zz_pV (ci := 7) Zc 0 rfl rfl) rfl rfl hl2.1 rfl (lv_room (Nat.le_of_ble_eq_true rfl)) dX7_comes_23 ⟨Nat.le_of_ble_eq_true rfl, Nat.le_of_ble_eq_true rfl⟩) rfl rfl (fun u14 H6 locs7 hw15 Z8 => ?_)
  clear Z5
  obtain ⟨f917, rfl⟩ : ∃ z, z = u14 := ⟨_, rfl⟩
  try dsimp only at hw15 Z8
  obtain ⟨⟨p18, p19, p20, p21, p22, p23, p24, p25, p26, p27, p28⟩, hx29⟩ := hw15
  have Z9 : zz_S D A s [(mo, .inr (7, [.ref ms, .ref mi, .ref ma, .int j3, .ref mts, .ref mtz, .ref mtn, .ref mh, .ref mhn, .ref mhw, .ref mhz, .ref mhr, .ref mcl, .ref mtp, .int j14, .int j15, .int j16, .int j17, .int j18, .int j19, .int j20, .int j21, .int j22, .int j23, .int j24, .ref mna, .ref mpi, .ref mca, .ref mwa, .int j29, .ref mrd])), (ms, .inl (kms, 3047, .inl f917))] [(kms, .int)] H6 locs7 := Z8
  clear Z8
  refine lv_aload_n hx hb dX7_comes_26 rfl (lv_at hl2 1 rfl) ?_
  refine lv_iload hx hb dX7_comes_27 (lv_at hl2 0 rfl) ?_
  refine lv_iconst (v := 1) hx hb dX7_comes_29 (by decide) ?_
  refine lv_iload_n hx hb dX7_comes_30 rfl (lv_at hl2 3 rfl) ?_
  refine zz_cv (WC := [(mo, .inr (7, [.ref ms, .ref mi, .ref ma, .int j3, .ref mts, .ref mtz, .ref mtn, .ref mh, .ref mhn, .ref mhw, .ref mhz, .ref mhr, .ref mcl, .ref mtp, .int j14, .int j15, .int j16, .int j17, .int j18, .int j19, .int j20, .int j21, .int j22, .int j23, .int j24, .ref mna, .ref mpi, .ref mca, .ref mwa, .int j29, .ref mrd])), (ms, .inl (kms, 3047, .inl f917))]) (TC := [(kms, .int)]) (WR := []) (TR := []) (k := 0) (n := 0) Z9 [0, 1] [] [0] [] rfl rfl (by decide +kernel) (by decide +kernel) (by decide +kernel) rfl rfl (fun Zc => va_runV (As := [.int 5, .int 1, .int pp]) (rest := []) X (c7_sets l D mo ms mi ma mts mtz mtn mh mhn mhw mhz mhr mcl mtp mna mpi mca mwa mrd j3 j14 j15 j16 j17 j18 j19 j20 j21 j22 j23 j24 j29 kms f917 6 a1 a2 a3 a4 a5 a6 a7 a8 a9 a10 5 1 pp p18 p19 p20 p21 p22 p23 p24 p25 p26 p27 p28 (zz_in _ 3047 (by decide)) (by decide) H6.size) (cwV 3 hts gX7_comes_X7_sets rfl rfl rfl ⟨rfl, zh_X7_sets⟩ ⟨Nat.le_of_ble_eq_true rfl, Nat.le_of_ble_eq_true rfl⟩) (zz_pV (ci := 7) Zc 0 rfl rfl) rfl rfl hl2.1 rfl (lv_room (Nat.le_of_ble_eq_true rfl)) dX7_comes_31 ⟨Nat.le_of_ble_eq_true rfl, Nat.le_of_ble_eq_true rfl⟩) rfl rfl (fun u30 H10 locs11 hw31 Z12 => ?_)
  clear Z9
  obtain ⟨f933, rfl⟩ : ∃ z, z = u30 := ⟨_, rfl⟩
  try dsimp only at hw31 Z12
  obtain ⟨⟨p34, p35, p36, p37, p38, p39, p40, p41, p42, p43, p44⟩, hx45⟩ := hw31
  have Z13 : zz_S D A s [(mo, .inr (7, [.ref ms, .ref mi, .ref ma, .int j3, .ref mts, .ref mtz, .ref mtn, .ref mh, .ref mhn, .ref mhw, .ref mhz, .ref mhr, .ref mcl, .ref mtp, .int j14, .int j15, .int j16, .int j17, .int j18, .int j19, .int j20, .int j21, .int j22, .int j23, .int j24, .ref mna, .ref mpi, .ref mca, .ref mwa, .int j29, .ref mrd])), (ms, .inl (kms, 3047, .inl f933))] [(kms, .int)] H10 locs11 := Z12
  clear Z12
  refine lv_aload_n hx hb dX7_comes_34 rfl (lv_at hl2 1 rfl) ?_
  refine lv_iload hx hb dX7_comes_35 (lv_at hl2 0 rfl) ?_
  refine lv_iconst (v := 2) hx hb dX7_comes_37 (by decide) ?_
  refine lv_bipush (v := 100) hx hb dX7_comes_38 (by decide) ?_
  refine zz_cv (WC := [(mo, .inr (7, [.ref ms, .ref mi, .ref ma, .int j3, .ref mts, .ref mtz, .ref mtn, .ref mh, .ref mhn, .ref mhw, .ref mhz, .ref mhr, .ref mcl, .ref mtp, .int j14, .int j15, .int j16, .int j17, .int j18, .int j19, .int j20, .int j21, .int j22, .int j23, .int j24, .ref mna, .ref mpi, .ref mca, .ref mwa, .int j29, .ref mrd])), (ms, .inl (kms, 3047, .inl f933))]) (TC := [(kms, .int)]) (WR := []) (TR := []) (k := 0) (n := 0) Z13 [0, 1] [] [0] [] rfl rfl (by decide +kernel) (by decide +kernel) (by decide +kernel) rfl rfl (fun Zc => va_runV (As := [.int 5, .int 2, .int 100]) (rest := []) X (c7_sets l D mo ms mi ma mts mtz mtn mh mhn mhw mhz mhr mcl mtp mna mpi mca mwa mrd j3 j14 j15 j16 j17 j18 j19 j20 j21 j22 j23 j24 j29 kms f933 6 a1 a2 a3 a4 a5 a6 a7 a8 a9 a10 5 2 100 p34 p35 p36 p37 p38 p39 p40 p41 p42 p43 p44 (zz_in _ 3047 (by decide)) (by decide) H10.size) (cwV 3 hts gX7_comes_X7_sets rfl rfl rfl ⟨rfl, zh_X7_sets⟩ ⟨Nat.le_of_ble_eq_true rfl, Nat.le_of_ble_eq_true rfl⟩) (zz_pV (ci := 7) Zc 0 rfl rfl) rfl rfl hl2.1 rfl (lv_room (Nat.le_of_ble_eq_true rfl)) dX7_comes_40 ⟨Nat.le_of_ble_eq_true rfl, Nat.le_of_ble_eq_true rfl⟩) rfl rfl (fun u46 H14 locs15 hw47 Z16 => ?_)
  clear Z13
  obtain ⟨f949, rfl⟩ : ∃ z, z = u46 := ⟨_, rfl⟩
  try dsimp only at hw47 Z16
  obtain ⟨⟨p50, p51, p52, p53, p54, p55, p56, p57, p58, p59, p60⟩, hx61⟩ := hw47
  have Z17 : zz_S D A s [(mo, .inr (7, [.ref ms, .ref mi, .ref ma, .int j3, .ref mts, .ref mtz, .ref mtn, .ref mh, .ref mhn, .ref mhw, .ref mhz, .ref mhr, .ref mcl, .ref mtp, .int j14, .int j15, .int j16, .int j17, .int j18, .int j19, .int j20, .int j21, .int j22, .int j23, .int j24, .ref mna, .ref mpi, .ref mca, .ref mwa, .int j29, .ref mrd])), (ms, .inl (kms, 3047, .inl f949))] [(kms, .int)] H14 locs15 := Z16
  clear Z16
  refine lv_aload_n hx hb dX7_comes_43 rfl (lv_at hl2 1 rfl) ?_
  refine lv_iload hx hb dX7_comes_44 (lv_at hl2 0 rfl) ?_
  refine lv_iconst (v := 3) hx hb dX7_comes_46 (by decide) ?_
  refine lv_iload_n hx hb dX7_comes_47 rfl (lv_at hl2 4 rfl) ?_
  refine zz_cv (WC := [(mo, .inr (7, [.ref ms, .ref mi, .ref ma, .int j3, .ref mts, .ref mtz, .ref mtn, .ref mh, .ref mhn, .ref mhw, .ref mhz, .ref mhr, .ref mcl, .ref mtp, .int j14, .int j15, .int j16, .int j17, .int j18, .int j19, .int j20, .int j21, .int j22, .int j23, .int j24, .ref mna, .ref mpi, .ref mca, .ref mwa, .int j29, .ref mrd])), (ms, .inl (kms, 3047, .inl f949))]) (TC := [(kms, .int)]) (WR := []) (TR := []) (k := 0) (n := 0) Z17 [0, 1] [] [0] [] rfl rfl (by decide +kernel) (by decide +kernel) (by decide +kernel) rfl rfl (fun Zc => va_runV (As := [.int 5, .int 3, .int yy]) (rest := []) X (c7_sets l D mo ms mi ma mts mtz mtn mh mhn mhw mhz mhr mcl mtp mna mpi mca mwa mrd j3 j14 j15 j16 j17 j18 j19 j20 j21 j22 j23 j24 j29 kms f949 6 a1 a2 a3 a4 a5 a6 a7 a8 a9 a10 5 3 yy p50 p51 p52 p53 p54 p55 p56 p57 p58 p59 p60 (zz_in _ 3047 (by decide)) (by decide) H14.size) (cwV 3 hts gX7_comes_X7_sets rfl rfl rfl ⟨rfl, zh_X7_sets⟩ ⟨Nat.le_of_ble_eq_true rfl, Nat.le_of_ble_eq_true rfl⟩) (zz_pV (ci := 7) Zc 0 rfl rfl) rfl rfl hl2.1 rfl (lv_room (Nat.le_of_ble_eq_true rfl)) dX7_comes_48 ⟨Nat.le_of_ble_eq_true rfl, Nat.le_of_ble_eq_true rfl⟩) rfl rfl (fun u62 H18 locs19 hw63 Z20 => ?_)
  clear Z17
  obtain ⟨f965, rfl⟩ : ∃ z, z = u62 := ⟨_, rfl⟩
  try dsimp only at hw63 Z20
  obtain ⟨⟨p66, p67, p68, p69, p70, p71, p72, p73, p74, p75, p76⟩, hx77⟩ := hw63
  have Z21 : zz_S D A s [(mo, .inr (7, [.ref ms, .ref mi, .ref ma, .int j3, .ref mts, .ref mtz, .ref mtn, .ref mh, .ref mhn, .ref mhw, .ref mhz, .ref mhr, .ref mcl, .ref mtp, .int j14, .int j15, .int j16, .int j17, .int j18, .int j19, .int j20, .int j21, .int j22, .int j23, .int j24, .ref mna, .ref mpi, .ref mca, .ref mwa, .int j29, .ref mrd])), (ms, .inl (kms, 3047, .inl f965))] [(kms, .int)] H18 locs19 := Z20
  clear Z20
  exact zz_vret X hr hlk Z21 (f965) ⟨⟨p66, p67, p68, p69, p70, p71, p72, p73, p74, p75, p76⟩, trivial⟩ [0, 1] [0] (by decide +kernel) rfl rfl dX7_comes_51

set_option maxHeartbeats 4000000 in
set_option maxRecDepth 100000 in
theorem c7_comes6 (l : Launch) (D : va_G) (mo : Nat) (ms : Nat) (mi : Nat) (ma : Nat) (mts : Nat) (mtz : Nat) (mtn : Nat) (mh : Nat) (mhn : Nat) (mhw : Nat) (mhz : Nat) (mhr : Nat) (mcl : Nat) (mtp : Nat) (mna : Nat) (mpi : Nat) (mca : Nat) (mwa : Nat) (mrd : Nat) (j3 : Int32) (j14 : Int32) (j15 : Int32) (j16 : Int32) (j17 : Int32) (j18 : Int32) (j19 : Int32) (j20 : Int32) (j21 : Int32) (j22 : Int32) (j23 : Int32) (j24 : Int32) (j29 : Int32) (kms : ClassId) (f : (Nat → Int32)) (a1 : Int32) (a2 : Int32) (a3 : Int32) (a4 : Int32) (a5 : Int32) (a6 : Int32) (a7 : Int32) (a8 : Int32) (a9 : Int32) (a10 : Int32) (kk : Int32) (pp : Int32) (yy : Int32) (af_0 : f 0 = 6) (af_1 : f 1 = a1) (af_2 : f 2 = a2) (af_3 : f 3 = a3) (af_4 : f 4 = a4) (af_5 : f 5 = a5) (af_6 : f 6 = a6) (af_7 : f 7 = a7) (af_8 : f 8 = a8) (af_9 : f 9 = a9) (af_10 : f 10 = a10) : zz_MV l yX7_comes wsX7_comes 1 23 0 0 D [.ref mo, .int kk, .int pp, .int yy] [(mo, .inr (7, [.ref ms, .ref mi, .ref ma, .int j3, .ref mts, .ref mtz, .ref mtn, .ref mh, .ref mhn, .ref mhw, .ref mhz, .ref mhr, .ref mcl, .ref mtp, .int j14, .int j15, .int j16, .int j17, .int j18, .int j19, .int j20, .int j21, .int j22, .int j23, .int j24, .ref mna, .ref mpi, .ref mca, .ref mwa, .int j29, .ref mrd])), (ms, .inl (kms, 3047, .inl f))] [(kms, .int)] (fun (f9 : (Nat → Int32)) => (f9 0 = 7 ∧ f9 1 = a1 ∧ f9 2 = a2 ∧ f9 3 = a3 ∧ f9 4 = a4 ∧ f9 5 = a5 ∧ f9 6 = a6 ∧ f9 7 = a7 ∧ f9 8 = a8 ∧ f9 9 = a9 ∧ f9 10 = a10) ∧ (True)) (fun (f9 : (Nat → Int32)) => [(mo, .inr (7, [.ref ms, .ref mi, .ref ma, .int j3, .ref mts, .ref mtz, .ref mtn, .ref mh, .ref mhn, .ref mhw, .ref mhz, .ref mhr, .ref mcl, .ref mtp, .int j14, .int j15, .int j16, .int j17, .int j18, .int j19, .int j20, .int j21, .int j22, .int j23, .int j24, .ref mna, .ref mpi, .ref mca, .ref mwa, .int j29, .ref mrd])), (ms, .inl (kms, 3047, .inl f9))]) (fun (f9 : (Nat → Int32)) => [(kms, .int)]) := by
  intro sz
  refine Met.ofW (cc := cX7_comes) (maxL := 5) (ret := none) (by decide) rfl ?_
  intro p e s m args below meth c s₁ B hml hv
  obtain ⟨rfl, hC⟩ := hv
  have hx := B.exec
  have hb := B.bytes
  have hr := B.returns
  have hts := atoms_spec (ws := wsX7_comes) B.pre
  have hown : s.vm.findClass RX7 = some m.cls := findClass_of_methodNamed B.named
  have hlk := B.notSynchronized
  have X : CallFix p m c cX7_comes 5 s _ wsX7_comes RX7 := ⟨hx, hb, hml, hown, hts⟩
  have Z := zz_enter hC
  generalize va_A [(mo, .inr (7, [.ref ms, .ref mi, .ref ma, .int j3, .ref mts, .ref mtz, .ref mtn, .ref mh, .ref mhn, .ref mhw, .ref mhz, .ref mhr, .ref mcl, .ref mtp, .int j14, .int j15, .int j16, .int j17, .int j18, .int j19, .int j20, .int j21, .int j22, .int j23, .int j24, .ref mna, .ref mpi, .ref mca, .ref mwa, .int j29, .ref mrd])), (ms, .inl (kms, 3047, .inl f))] sz = A at Z ⊢
  have hl := lv_entry ([.ref mo, .int kk, .int pp, .int yy]) (n := 5) (Nat.le_of_ble_eq_true rfl)
  rw [lg_entry_eq]
  generalize (lg_sl ([.ref mo, .int kk, .int pp, .int yy]) ++ List.replicate (5 - (lg_sl ([.ref mo, .int kk, .int pp, .int yy])).length) Slot.unset).toArray = ls at hl ⊢
  have hl : lv_has ls 5 [(0, .ref mo), (1, .int kk), (2, .int pp), (3, .int yy)] := hl
  refine lv_aload_n hx hb dX7_comes_0 rfl (lv_at hl 0 rfl) ?_
  refine zz_get X Z 0 rfl rfl (fun w h => List.mem_cons_of_mem _ (List.mem_append_right _ h)) 0 rfl (zz_m 1 rfl) rfl dX7_comes_1 ?_
  refine lv_iconst (v := 0) hx hb dX7_comes_4 (by decide) ?_
  refine zz_ild X Z 1 0 rfl rfl (zz_in 0 3047 rfl) dX7_comes_5 ?_
  refine zz_v (v := 6) af_0 ?_
  refine lv_istore (lv' := [(4, .int 6), (0, .ref mo), (1, .int kk), (2, .int pp), (3, .int yy)]) hx hb dX7_comes_6 hl (by decide) rfl (fun ls1 hl2 => ?_)
  clear hl
  refine lv_aload_n hx hb dX7_comes_8 rfl (lv_at hl2 1 rfl) ?_
  refine zz_get X Z 0 rfl rfl (fun w h => List.mem_cons_of_mem _ (List.mem_append_right _ h)) 0 rfl (zz_m 1 rfl) rfl dX7_comes_9 ?_
  refine lv_iconst (v := 0) hx hb dX7_comes_12 (by decide) ?_
  refine lv_dup2_11 hx hb dX7_comes_13 rfl rfl ?_
  refine zz_ild X Z 1 0 rfl rfl (zz_in 0 3047 rfl) dX7_comes_14 ?_
  refine zz_v (v := 6) af_0 ?_
  refine lv_iconst (v := 1) hx hb dX7_comes_15 (by decide) ?_
  refine lv_iadd hx hb dX7_comes_16 ?_
  refine zz_v (v := 7) (by decide) ?_
  refine zz_istN (WS' := fun f1 => [(mo, .inr (7, [.ref ms, .ref mi, .ref ma, .int j3, .ref mts, .ref mtz, .ref mtn, .ref mh, .ref mhn, .ref mhw, .ref mhz, .ref mhr, .ref mcl, .ref mtp, .int j14, .int j15, .int j16, .int j17, .int j18, .int j19, .int j20, .int j21, .int j22, .int j23, .int j24, .ref mna, .ref mpi, .ref mca, .ref mwa, .int j29, .ref mrd])), (ms, .inl (kms, 3047, .inl f1))]) X Z 1 0 rfl rfl (zz_in 0 3047 rfl) dX7_comes_17 (fun _ => rfl) (fun f1 ef2 H3 locs4 Z5 => ?_)
  clear Z
  have p3 : f1 0 = 7 := (by rw [ef2]; rfl)
  have p4 : f1 1 = a1 := (by rw [ef2]; exact af_1)
  have p5 : f1 2 = a2 := (by rw [ef2]; exact af_2)
  have p6 : f1 3 = a3 := (by rw [ef2]; exact af_3)
  have p7 : f1 4 = a4 := (by rw [ef2]; exact af_4)
  have p8 : f1 5 = a5 := (by rw [ef2]; exact af_5)
  have p9 : f1 6 = a6 := (by rw [ef2]; exact af_6)
  have p10 : f1 7 = a7 := (by rw [ef2]; exact af_7)
  have p11 : f1 8 = a8 := (by rw [ef2]; exact af_8)
  have p12 : f1 9 = a9 := (by rw [ef2]; exact af_9)
  have p13 : f1 10 = a10 := (by rw [ef2]; exact af_10)
  refine lv_aload_n hx hb dX7_comes_18 rfl (lv_at hl2 1 rfl) ?_
  refine lv_iload hx hb dX7_comes_19 (lv_at hl2 0 rfl) ?_
  refine lv_iconst (v := 0) hx hb dX7_comes_21 (by decide) ?_
  refine lv_iload_n hx hb dX7_comes_22 rfl (lv_at hl2 2 rfl) ?_
  refine zz_cv (WC := [(mo, .inr (7, [.ref ms, .ref mi, .ref ma, .int j3, .ref mts, .ref mtz, .ref mtn, .ref mh, .ref mhn, .ref mhw, .ref mhz, .ref mhr, .ref mcl, .ref mtp, .int j14, .int j15, .int j16, .int j17, .int j18, .int j19, .int j20, .int j21, .int j22, .int j23, .int j24, .ref mna, .ref mpi, .ref mca, .ref mwa, .int j29, .ref mrd])), (ms, .inl (kms, 3047, .inl f1))]) (TC := [(kms, .int)]) (WR := []) (TR := []) (k := 0) (n := 0) Z5 [0, 1] [] [0] [] rfl rfl (by decide +kernel) (by decide +kernel) (by decide +kernel) rfl rfl (fun Zc => va_runV (As := [.int 6, .int 0, .int kk]) (rest := []) X (c7_sets l D mo ms mi ma mts mtz mtn mh mhn mhw mhz mhr mcl mtp mna mpi mca mwa mrd j3 j14 j15 j16 j17 j18 j19 j20 j21 j22 j23 j24 j29 kms f1 7 a1 a2 a3 a4 a5 a6 a7 a8 a9 a10 6 0 kk p3 p4 p5 p6 p7 p8 p9 p10 p11 p12 p13 (zz_in _ 3047 (by decide)) (by decide) H3.size) (cwV 3 hts gX7_comes_X7_sets rfl rfl rfl ⟨rfl, zh_X7_sets⟩ ⟨Nat.le_of_ble_eq_true rfl, Nat.le_of_ble_eq_true rfl⟩) (zz_pV (ci := 7) Zc 0 rfl rfl) rfl rfl hl2.1 rfl (lv_room (Nat.le_of_ble_eq_true rfl)) dX7_comes_23 ⟨Nat.le_of_ble_eq_true rfl, Nat.le_of_ble_eq_true rfl⟩) rfl rfl (fun u14 H6 locs7 hw15 Z8 => ?_)
  clear Z5
  obtain ⟨f917, rfl⟩ : ∃ z, z = u14 := ⟨_, rfl⟩
  try dsimp only at hw15 Z8
  obtain ⟨⟨p18, p19, p20, p21, p22, p23, p24, p25, p26, p27, p28⟩, hx29⟩ := hw15
  have Z9 : zz_S D A s [(mo, .inr (7, [.ref ms, .ref mi, .ref ma, .int j3, .ref mts, .ref mtz, .ref mtn, .ref mh, .ref mhn, .ref mhw, .ref mhz, .ref mhr, .ref mcl, .ref mtp, .int j14, .int j15, .int j16, .int j17, .int j18, .int j19, .int j20, .int j21, .int j22, .int j23, .int j24, .ref mna, .ref mpi, .ref mca, .ref mwa, .int j29, .ref mrd])), (ms, .inl (kms, 3047, .inl f917))] [(kms, .int)] H6 locs7 := Z8
  clear Z8
  refine lv_aload_n hx hb dX7_comes_26 rfl (lv_at hl2 1 rfl) ?_
  refine lv_iload hx hb dX7_comes_27 (lv_at hl2 0 rfl) ?_
  refine lv_iconst (v := 1) hx hb dX7_comes_29 (by decide) ?_
  refine lv_iload_n hx hb dX7_comes_30 rfl (lv_at hl2 3 rfl) ?_
  refine zz_cv (WC := [(mo, .inr (7, [.ref ms, .ref mi, .ref ma, .int j3, .ref mts, .ref mtz, .ref mtn, .ref mh, .ref mhn, .ref mhw, .ref mhz, .ref mhr, .ref mcl, .ref mtp, .int j14, .int j15, .int j16, .int j17, .int j18, .int j19, .int j20, .int j21, .int j22, .int j23, .int j24, .ref mna, .ref mpi, .ref mca, .ref mwa, .int j29, .ref mrd])), (ms, .inl (kms, 3047, .inl f917))]) (TC := [(kms, .int)]) (WR := []) (TR := []) (k := 0) (n := 0) Z9 [0, 1] [] [0] [] rfl rfl (by decide +kernel) (by decide +kernel) (by decide +kernel) rfl rfl (fun Zc => va_runV (As := [.int 6, .int 1, .int pp]) (rest := []) X (c7_sets l D mo ms mi ma mts mtz mtn mh mhn mhw mhz mhr mcl mtp mna mpi mca mwa mrd j3 j14 j15 j16 j17 j18 j19 j20 j21 j22 j23 j24 j29 kms f917 7 a1 a2 a3 a4 a5 a6 a7 a8 a9 a10 6 1 pp p18 p19 p20 p21 p22 p23 p24 p25 p26 p27 p28 (zz_in _ 3047 (by decide)) (by decide) H6.size) (cwV 3 hts gX7_comes_X7_sets rfl rfl rfl ⟨rfl, zh_X7_sets⟩ ⟨Nat.le_of_ble_eq_true rfl, Nat.le_of_ble_eq_true rfl⟩) (zz_pV (ci := 7) Zc 0 rfl rfl) rfl rfl hl2.1 rfl (lv_room (Nat.le_of_ble_eq_true rfl)) dX7_comes_31 ⟨Nat.le_of_ble_eq_true rfl, Nat.le_of_ble_eq_true rfl⟩) rfl rfl (fun u30 H10 locs11 hw31 Z12 => ?_)
  clear Z9
  obtain ⟨f933, rfl⟩ : ∃ z, z = u30 := ⟨_, rfl⟩
  try dsimp only at hw31 Z12
  obtain ⟨⟨p34, p35, p36, p37, p38, p39, p40, p41, p42, p43, p44⟩, hx45⟩ := hw31
  have Z13 : zz_S D A s [(mo, .inr (7, [.ref ms, .ref mi, .ref ma, .int j3, .ref mts, .ref mtz, .ref mtn, .ref mh, .ref mhn, .ref mhw, .ref mhz, .ref mhr, .ref mcl, .ref mtp, .int j14, .int j15, .int j16, .int j17, .int j18, .int j19, .int j20, .int j21, .int j22, .int j23, .int j24, .ref mna, .ref mpi, .ref mca, .ref mwa, .int j29, .ref mrd])), (ms, .inl (kms, 3047, .inl f933))] [(kms, .int)] H10 locs11 := Z12
  clear Z12
  refine lv_aload_n hx hb dX7_comes_34 rfl (lv_at hl2 1 rfl) ?_
  refine lv_iload hx hb dX7_comes_35 (lv_at hl2 0 rfl) ?_
  refine lv_iconst (v := 2) hx hb dX7_comes_37 (by decide) ?_
  refine lv_bipush (v := 100) hx hb dX7_comes_38 (by decide) ?_
  refine zz_cv (WC := [(mo, .inr (7, [.ref ms, .ref mi, .ref ma, .int j3, .ref mts, .ref mtz, .ref mtn, .ref mh, .ref mhn, .ref mhw, .ref mhz, .ref mhr, .ref mcl, .ref mtp, .int j14, .int j15, .int j16, .int j17, .int j18, .int j19, .int j20, .int j21, .int j22, .int j23, .int j24, .ref mna, .ref mpi, .ref mca, .ref mwa, .int j29, .ref mrd])), (ms, .inl (kms, 3047, .inl f933))]) (TC := [(kms, .int)]) (WR := []) (TR := []) (k := 0) (n := 0) Z13 [0, 1] [] [0] [] rfl rfl (by decide +kernel) (by decide +kernel) (by decide +kernel) rfl rfl (fun Zc => va_runV (As := [.int 6, .int 2, .int 100]) (rest := []) X (c7_sets l D mo ms mi ma mts mtz mtn mh mhn mhw mhz mhr mcl mtp mna mpi mca mwa mrd j3 j14 j15 j16 j17 j18 j19 j20 j21 j22 j23 j24 j29 kms f933 7 a1 a2 a3 a4 a5 a6 a7 a8 a9 a10 6 2 100 p34 p35 p36 p37 p38 p39 p40 p41 p42 p43 p44 (zz_in _ 3047 (by decide)) (by decide) H10.size) (cwV 3 hts gX7_comes_X7_sets rfl rfl rfl ⟨rfl, zh_X7_sets⟩ ⟨Nat.le_of_ble_eq_true rfl, Nat.le_of_ble_eq_true rfl⟩) (zz_pV (ci := 7) Zc 0 rfl rfl) rfl rfl hl2.1 rfl (lv_room (Nat.le_of_ble_eq_true rfl)) dX7_comes_40 ⟨Nat.le_of_ble_eq_true rfl, Nat.le_of_ble_eq_true rfl⟩) rfl rfl (fun u46 H14 locs15 hw47 Z16 => ?_)
  clear Z13
  obtain ⟨f949, rfl⟩ : ∃ z, z = u46 := ⟨_, rfl⟩
  try dsimp only at hw47 Z16
  obtain ⟨⟨p50, p51, p52, p53, p54, p55, p56, p57, p58, p59, p60⟩, hx61⟩ := hw47
  have Z17 : zz_S D A s [(mo, .inr (7, [.ref ms, .ref mi, .ref ma, .int j3, .ref mts, .ref mtz, .ref mtn, .ref mh, .ref mhn, .ref mhw, .ref mhz, .ref mhr, .ref mcl, .ref mtp, .int j14, .int j15, .int j16, .int j17, .int j18, .int j19, .int j20, .int j21, .int j22, .int j23, .int j24, .ref mna, .ref mpi, .ref mca, .ref mwa, .int j29, .ref mrd])), (ms, .inl (kms, 3047, .inl f949))] [(kms, .int)] H14 locs15 := Z16
  clear Z16
  refine lv_aload_n hx hb dX7_comes_43 rfl (lv_at hl2 1 rfl) ?_
  refine lv_iload hx hb dX7_comes_44 (lv_at hl2 0 rfl) ?_
  refine lv_iconst (v := 3) hx hb dX7_comes_46 (by decide) ?_
  refine lv_iload_n hx hb dX7_comes_47 rfl (lv_at hl2 4 rfl) ?_
  refine zz_cv (WC := [(mo, .inr (7, [.ref ms, .ref mi, .ref ma, .int j3, .ref mts, .ref mtz, .ref mtn, .ref mh, .ref mhn, .ref mhw, .ref mhz, .ref mhr, .ref mcl, .ref mtp, .int j14, .int j15, .int j16, .int j17, .int j18, .int j19, .int j20, .int j21, .int j22, .int j23, .int j24, .ref mna, .ref mpi, .ref mca, .ref mwa, .int j29, .ref mrd])), (ms, .inl (kms, 3047, .inl f949))]) (TC := [(kms, .int)]) (WR := []) (TR := []) (k := 0) (n := 0) Z17 [0, 1] [] [0] [] rfl rfl (by decide +kernel) (by decide +kernel) (by decide +kernel) rfl rfl (fun Zc => va_runV (As := [.int 6, .int 3, .int yy]) (rest := []) X (c7_sets l D mo ms mi ma mts mtz mtn mh mhn mhw mhz mhr mcl mtp mna mpi mca mwa mrd j3 j14 j15 j16 j17 j18 j19 j20 j21 j22 j23 j24 j29 kms f949 7 a1 a2 a3 a4 a5 a6 a7 a8 a9 a10 6 3 yy p50 p51 p52 p53 p54 p55 p56 p57 p58 p59 p60 (zz_in _ 3047 (by decide)) (by decide) H14.size) (cwV 3 hts gX7_comes_X7_sets rfl rfl rfl ⟨rfl, zh_X7_sets⟩ ⟨Nat.le_of_ble_eq_true rfl, Nat.le_of_ble_eq_true rfl⟩) (zz_pV (ci := 7) Zc 0 rfl rfl) rfl rfl hl2.1 rfl (lv_room (Nat.le_of_ble_eq_true rfl)) dX7_comes_48 ⟨Nat.le_of_ble_eq_true rfl, Nat.le_of_ble_eq_true rfl⟩) rfl rfl (fun u62 H18 locs19 hw63 Z20 => ?_)
  clear Z17
  obtain ⟨f965, rfl⟩ : ∃ z, z = u62 := ⟨_, rfl⟩
  try dsimp only at hw63 Z20
  obtain ⟨⟨p66, p67, p68, p69, p70, p71, p72, p73, p74, p75, p76⟩, hx77⟩ := hw63
  have Z21 : zz_S D A s [(mo, .inr (7, [.ref ms, .ref mi, .ref ma, .int j3, .ref mts, .ref mtz, .ref mtn, .ref mh, .ref mhn, .ref mhw, .ref mhz, .ref mhr, .ref mcl, .ref mtp, .int j14, .int j15, .int j16, .int j17, .int j18, .int j19, .int j20, .int j21, .int j22, .int j23, .int j24, .ref mna, .ref mpi, .ref mca, .ref mwa, .int j29, .ref mrd])), (ms, .inl (kms, 3047, .inl f965))] [(kms, .int)] H18 locs19 := Z20
  clear Z20
  exact zz_vret X hr hlk Z21 (f965) ⟨⟨p66, p67, p68, p69, p70, p71, p72, p73, p74, p75, p76⟩, trivial⟩ [0, 1] [0] (by decide +kernel) rfl rfl dX7_comes_51

set_option maxHeartbeats 4000000 in
set_option maxRecDepth 100000 in
theorem c7_comes7 (l : Launch) (D : va_G) (mo : Nat) (ms : Nat) (mi : Nat) (ma : Nat) (mts : Nat) (mtz : Nat) (mtn : Nat) (mh : Nat) (mhn : Nat) (mhw : Nat) (mhz : Nat) (mhr : Nat) (mcl : Nat) (mtp : Nat) (mna : Nat) (mpi : Nat) (mca : Nat) (mwa : Nat) (mrd : Nat) (j3 : Int32) (j14 : Int32) (j15 : Int32) (j16 : Int32) (j17 : Int32) (j18 : Int32) (j19 : Int32) (j20 : Int32) (j21 : Int32) (j22 : Int32) (j23 : Int32) (j24 : Int32) (j29 : Int32) (kms : ClassId) (f : (Nat → Int32)) (a1 : Int32) (a2 : Int32) (a3 : Int32) (a4 : Int32) (a5 : Int32) (a6 : Int32) (a7 : Int32) (a8 : Int32) (a9 : Int32) (a10 : Int32) (kk : Int32) (pp : Int32) (yy : Int32) (af_0 : f 0 = 7) (af_1 : f 1 = a1) (af_2 : f 2 = a2) (af_3 : f 3 = a3) (af_4 : f 4 = a4) (af_5 : f 5 = a5) (af_6 : f 6 = a6) (af_7 : f 7 = a7) (af_8 : f 8 = a8) (af_9 : f 9 = a9) (af_10 : f 10 = a10) : zz_MV l yX7_comes wsX7_comes 1 23 0 0 D [.ref mo, .int kk, .int pp, .int yy] [(mo, .inr (7, [.ref ms, .ref mi, .ref ma, .int j3, .ref mts, .ref mtz, .ref mtn, .ref mh, .ref mhn, .ref mhw, .ref mhz, .ref mhr, .ref mcl, .ref mtp, .int j14, .int j15, .int j16, .int j17, .int j18, .int j19, .int j20, .int j21, .int j22, .int j23, .int j24, .ref mna, .ref mpi, .ref mca, .ref mwa, .int j29, .ref mrd])), (ms, .inl (kms, 3047, .inl f))] [(kms, .int)] (fun (f9 : (Nat → Int32)) => (f9 0 = 8 ∧ f9 1 = a1 ∧ f9 2 = a2 ∧ f9 3 = a3 ∧ f9 4 = a4 ∧ f9 5 = a5 ∧ f9 6 = a6 ∧ f9 7 = a7 ∧ f9 8 = a8 ∧ f9 9 = a9 ∧ f9 10 = a10) ∧ (True)) (fun (f9 : (Nat → Int32)) => [(mo, .inr (7, [.ref ms, .ref mi, .ref ma, .int j3, .ref mts, .ref mtz, .ref mtn, .ref mh, .ref mhn, .ref mhw, .ref mhz, .ref mhr, .ref mcl, .ref mtp, .int j14, .int j15, .int j16, .int j17, .int j18, .int j19, .int j20, .int j21, .int j22, .int j23, .int j24, .ref mna, .ref mpi, .ref mca, .ref mwa, .int j29, .ref mrd])), (ms, .inl (kms, 3047, .inl f9))]) (fun (f9 : (Nat → Int32)) => [(kms, .int)]) := by
  intro sz
  refine Met.ofW (cc := cX7_comes) (maxL := 5) (ret := none) (by decide) rfl ?_
  intro p e s m args below meth c s₁ B hml hv
  obtain ⟨rfl, hC⟩ := hv
  have hx := B.exec
  have hb := B.bytes
  have hr := B.returns
  have hts := atoms_spec (ws := wsX7_comes) B.pre
  have hown : s.vm.findClass RX7 = some m.cls := findClass_of_methodNamed B.named
  have hlk := B.notSynchronized
  have X : CallFix p m c cX7_comes 5 s _ wsX7_comes RX7 := ⟨hx, hb, hml, hown, hts⟩
  have Z := zz_enter hC
  generalize va_A [(mo, .inr (7, [.ref ms, .ref mi, .ref ma, .int j3, .ref mts, .ref mtz, .ref mtn, .ref mh, .ref mhn, .ref mhw, .ref mhz, .ref mhr, .ref mcl, .ref mtp, .int j14, .int j15, .int j16, .int j17, .int j18, .int j19, .int j20, .int j21, .int j22, .int j23, .int j24, .ref mna, .ref mpi, .ref mca, .ref mwa, .int j29, .ref mrd])), (ms, .inl (kms, 3047, .inl f))] sz = A at Z ⊢
  have hl := lv_entry ([.ref mo, .int kk, .int pp, .int yy]) (n := 5) (Nat.le_of_ble_eq_true rfl)
  rw [lg_entry_eq]
  generalize (lg_sl ([.ref mo, .int kk, .int pp, .int yy]) ++ List.replicate (5 - (lg_sl ([.ref mo, .int kk, .int pp, .int yy])).length) Slot.unset).toArray = ls at hl ⊢
  have hl : lv_has ls 5 [(0, .ref mo), (1, .int kk), (2, .int pp), (3, .int yy)] := hl
  refine lv_aload_n hx hb dX7_comes_0 rfl (lv_at hl 0 rfl) ?_
  refine zz_get X Z 0 rfl rfl (fun w h => List.mem_cons_of_mem _ (List.mem_append_right _ h)) 0 rfl (zz_m 1 rfl) rfl dX7_comes_1 ?_
  refine lv_iconst (v := 0) hx hb dX7_comes_4 (by decide) ?_
  refine zz_ild X Z 1 0 rfl rfl (zz_in 0 3047 rfl) dX7_comes_5 ?_
  refine zz_v (v := 7) af_0 ?_
  refine lv_istore (lv' := [(4, .int 7), (0, .ref mo), (1, .int kk), (2, .int pp), (3, .int yy)]) hx hb dX7_comes_6 hl (by decide) rfl (fun ls1 hl2 => ?_)
  clear hl
  refine lv_aload_n hx hb dX7_comes_8 rfl (lv_at hl2 1 rfl) ?_
  refine zz_get X Z 0 rfl rfl (fun w h => List.mem_cons_of_mem _ (List.mem_append_right _ h)) 0 rfl (zz_m 1 rfl) rfl dX7_comes_9 ?_
  refine lv_iconst (v := 0) hx hb dX7_comes_12 (by decide) ?_
  refine lv_dup2_11 hx hb dX7_comes_13 rfl rfl ?_
  refine zz_ild X Z 1 0 rfl rfl (zz_in 0 3047 rfl) dX7_comes_14 ?_
  refine zz_v (v := 7) af_0 ?_
  refine lv_iconst (v := 1) hx hb dX7_comes_15 (by decide) ?_
  refine lv_iadd hx hb dX7_comes_16 ?_
  refine zz_v (v := 8) (by decide) ?_
  refine zz_istN (WS' := fun f1 => [(mo, .inr (7, [.ref ms, .ref mi, .ref ma, .int j3, .ref mts, .ref mtz, .ref mtn, .ref mh, .ref mhn, .ref mhw, .ref mhz, .ref mhr, .ref mcl, .ref mtp, .int j14, .int j15, .int j16, .int j17, .int j18, .int j19, .int j20, .int j21, .int j22, .int j23, .int j24, .ref mna, .ref mpi, .ref mca, .ref mwa, .int j29, .ref mrd])), (ms, .inl (kms, 3047, .inl f1))]) X Z 1 0 rfl rfl (zz_in 0 3047 rfl) dX7_comes_17 (fun _ => rfl) (fun f1 ef2 H3 locs4 Z5 => ?_)
  clear Z
  have p3 : f1 0 = 8 := (by rw [ef2]; rfl)
  have p4 : f1 1 = a1 := (by rw [ef2]; exact af_1)
  have p5 : f1 2 = a2 := (by rw [ef2]; exact af_2)
  have p6 : f1 3 = a3 := (by rw [ef2]; exact af_3)
  have p7 : f1 4 = a4 := (by rw [ef2]; exact af_4)
  have p8 : f1 5 = a5 := (by rw [ef2]; exact af_5)
  have p9 : f1 6 = a6 := (by rw [ef2]; exact af_6)
  have p10 : f1 7 = a7 := (by rw [ef2]; exact af_7)
  have p11 : f1 8 = a8 := (by rw [ef2]; exact af_8)
  have p12 : f1 9 = a9 := (by rw [ef2]; exact af_9)
  have p13 : f1 10 = a10 := (by rw [ef2]; exact af_10)
  refine lv_aload_n hx hb dX7_comes_18 rfl (lv_at hl2 1 rfl) ?_
  refine lv_iload hx hb dX7_comes_19 (lv_at hl2 0 rfl) ?_
  refine lv_iconst (v := 0) hx hb dX7_comes_21 (by decide) ?_
  refine lv_iload_n hx hb dX7_comes_22 rfl (lv_at hl2 2 rfl) ?_
  refine zz_cv (WC := [(mo, .inr (7, [.ref ms, .ref mi, .ref ma, .int j3, .ref mts, .ref mtz, .ref mtn, .ref mh, .ref mhn, .ref mhw, .ref mhz, .ref mhr, .ref mcl, .ref mtp, .int j14, .int j15, .int j16, .int j17, .int j18, .int j19, .int j20, .int j21, .int j22, .int j23, .int j24, .ref mna, .ref mpi, .ref mca, .ref mwa, .int j29, .ref mrd])), (ms, .inl (kms, 3047, .inl f1))]) (TC := [(kms, .int)]) (WR := []) (TR := []) (k := 0) (n := 0) Z5 [0, 1] [] [0] [] rfl rfl (by decide +kernel) (by decide +kernel) (by decide +kernel) rfl rfl (fun Zc => va_runV (As := [.int 7, .int 0, .int kk]) (rest := []) X (c7_sets l D mo ms mi ma mts mtz mtn mh mhn mhw mhz mhr mcl mtp mna mpi mca mwa mrd j3 j14 j15 j16 j17 j18 j19 j20 j21 j22 j23 j24 j29 kms f1 8 a1 a2 a3 a4 a5 a6 a7 a8 a9 a10 7 0 kk p3 p4 p5 p6 p7 p8 p9 p10 p11 p12 p13 (zz_in _ 3047 (by decide)) (by decide) H3.size) (cwV 3 hts gX7_comes_X7_sets rfl rfl rfl ⟨rfl, zh_X7_sets⟩ ⟨Nat.le_of_ble_eq_true rfl, Nat.le_of_ble_eq_true rfl⟩) (zz_pV (ci := 7) Zc 0 rfl rfl) rfl rfl hl2.1 rfl (lv_room (Nat.le_of_ble_eq_true rfl)) dX7_comes_23 ⟨Nat.le_of_ble_eq_true rfl, Nat.le_of_ble_eq_true rfl⟩) rfl rfl (fun u14 H6 locs7 hw15 Z8 => ?_)
  clear Z5
  obtain ⟨f917, rfl⟩ : ∃ z, z = u14 := ⟨_, rfl⟩
  try dsimp only at hw15 Z8
  obtain ⟨⟨p18, p19, p20, p21, p22, p23, p24, p25, p26, p27, p28⟩, hx29⟩ := hw15
  have Z9 : zz_S D A s [(mo, .inr (7, [.ref ms, .ref mi, .ref ma, .int j3, .ref mts, .ref mtz, .ref mtn, .ref mh, .ref mhn, .ref mhw, .ref mhz, .ref mhr, .ref mcl, .ref mtp, .int j14, .int j15, .int j16, .int j17, .int j18, .int j19, .int j20, .int j21, .int j22, .int j23, .int j24, .ref mna, .ref mpi, .ref mca, .ref mwa, .int j29, .ref mrd])), (ms, .inl (kms, 3047, .inl f917))] [(kms, .int)] H6 locs7 := Z8
  clear Z8
  refine lv_aload_n hx hb dX7_comes_26 rfl (lv_at hl2 1 rfl) ?_
  refine lv_iload hx hb dX7_comes_27 (lv_at hl2 0 rfl) ?_
  refine lv_iconst (v := 1) hx hb dX7_comes_29 (by decide) ?_
  refine lv_iload_n hx hb dX7_comes_30 rfl (lv_at hl2 3 rfl) ?_
  refine zz_cv (WC := [(mo, .inr (7, [.ref ms, .ref mi, .ref ma, .int j3, .ref mts, .ref mtz, .ref mtn, .ref mh, .ref mhn, .ref mhw, .ref mhz, .ref mhr, .ref mcl, .ref mtp, .int j14, .int j15, .int j16, .int j17, .int j18, .int j19, .int j20, .int j21, .int j22, .int j23, .int j24, .ref mna, .ref mpi, .ref mca, .ref mwa, .int j29, .ref mrd])), (ms, .inl (kms, 3047, .inl f917))]) (TC := [(kms, .int)]) (WR := []) (TR := []) (k := 0) (n := 0) Z9 [0, 1] [] [0] [] rfl rfl (by decide +kernel) (by decide +kernel) (by decide +kernel) rfl rfl (fun Zc => va_runV (As := [.int 7, .int 1, .int pp]) (rest := []) X (c7_sets l D mo ms mi ma mts mtz mtn mh mhn mhw mhz mhr mcl mtp mna mpi mca mwa mrd j3 j14 j15 j16 j17 j18 j19 j20 j21 j22 j23 j24 j29 kms f917 8 a1 a2 a3 a4 a5 a6 a7 a8 a9 a10 7 1 pp p18 p19 p20 p21 p22 p23 p24 p25 p26 p27 p28 (zz_in _ 3047 (by decide)) (by decide) H6.size) (cwV 3 hts gX7_comes_X7_sets rfl rfl rfl ⟨rfl, zh_X7_sets⟩ ⟨Nat.le_of_ble_eq_true rfl, Nat.le_of_ble_eq_true rfl⟩) (zz_pV (ci := 7) Zc 0 rfl rfl) rfl rfl hl2.1 rfl (lv_room (Nat.le_of_ble_eq_true rfl)) dX7_comes_31 ⟨Nat.le_of_ble_eq_true rfl, Nat.le_of_ble_eq_true rfl⟩) rfl rfl (fun u30 H10 locs11 hw31 Z12 => ?_)
  clear Z9
  obtain ⟨f933, rfl⟩ : ∃ z, z = u30 := ⟨_, rfl⟩
  try dsimp only at hw31 Z12
  obtain ⟨⟨p34, p35, p36, p37, p38, p39, p40, p41, p42, p43, p44⟩, hx45⟩ := hw31
  have Z13 : zz_S D A s [(mo, .inr (7, [.ref ms, .ref mi, .ref ma, .int j3, .ref mts, .ref mtz, .ref mtn, .ref mh, .ref mhn, .ref mhw, .ref mhz, .ref mhr, .ref mcl, .ref mtp, .int j14, .int j15, .int j16, .int j17, .int j18, .int j19, .int j20, .int j21, .int j22, .int j23, .int j24, .ref mna, .ref mpi, .ref mca, .ref mwa, .int j29, .ref mrd])), (ms, .inl (kms, 3047, .inl f933))] [(kms, .int)] H10 locs11 := Z12
  clear Z12
  refine lv_aload_n hx hb dX7_comes_34 rfl (lv_at hl2 1 rfl) ?_
  refine lv_iload hx hb dX7_comes_35 (lv_at hl2 0 rfl) ?_
  refine lv_iconst (v := 2) hx hb dX7_comes_37 (by decide) ?_
  refine lv_bipush (v := 100) hx hb dX7_comes_38 (by decide) ?_
  refine zz_cv (WC := [(mo, .inr (7, [.ref ms, .ref mi, .ref ma, .int j3, .ref mts, .ref mtz, .ref mtn, .ref mh, .ref mhn, .ref mhw, .ref mhz, .ref mhr, .ref mcl, .ref mtp, .int j14, .int j15, .int j16, .int j17, .int j18, .int j19, .int j20, .int j21, .int j22, .int j23, .int j24, .ref mna, .ref mpi, .ref mca, .ref mwa, .int j29, .ref mrd])), (ms, .inl (kms, 3047, .inl f933))]) (TC := [(kms, .int)]) (WR := []) (TR := []) (k := 0) (n := 0) Z13 [0, 1] [] [0] [] rfl rfl (by decide +kernel) (by decide +kernel) (by decide +kernel) rfl rfl (fun Zc => va_runV (As := [.int 7, .int 2, .int 100]) (rest := []) X (c7_sets l D mo ms mi ma mts mtz mtn mh mhn mhw mhz mhr mcl mtp mna mpi mca mwa mrd j3 j14 j15 j16 j17 j18 j19 j20 j21 j22 j23 j24 j29 kms f933 8 a1 a2 a3 a4 a5 a6 a7 a8 a9 a10 7 2 100 p34 p35 p36 p37 p38 p39 p40 p41 p42 p43 p44 (zz_in _ 3047 (by decide)) (by decide) H10.size) (cwV 3 hts gX7_comes_X7_sets rfl rfl rfl ⟨rfl, zh_X7_sets⟩ ⟨Nat.le_of_ble_eq_true rfl, Nat.le_of_ble_eq_true rfl⟩) (zz_pV (ci := 7) Zc 0 rfl rfl) rfl rfl hl2.1 rfl (lv_room (Nat.le_of_ble_eq_true rfl)) dX7_comes_40 ⟨Nat.le_of_ble_eq_true rfl, Nat.le_of_ble_eq_true rfl⟩) rfl rfl (fun u46 H14 locs15 hw47 Z16 => ?_)
  clear Z13
  obtain ⟨f949, rfl⟩ : ∃ z, z = u46 := ⟨_, rfl⟩
  try dsimp only at hw47 Z16
  obtain ⟨⟨p50, p51, p52, p53, p54, p55, p56, p57, p58, p59, p60⟩, hx61⟩ := hw47
  have Z17 : zz_S D A s [(mo, .inr (7, [.ref ms, .ref mi, .ref ma, .int j3, .ref mts, .ref mtz, .ref mtn, .ref mh, .ref mhn, .ref mhw, .ref mhz, .ref mhr, .ref mcl, .ref mtp, .int j14, .int j15, .int j16, .int j17, .int j18, .int j19, .int j20, .int j21, .int j22, .int j23, .int j24, .ref mna, .ref mpi, .ref mca, .ref mwa, .int j29, .ref mrd])), (ms, .inl (kms, 3047, .inl f949))] [(kms, .int)] H14 locs15 := Z16
  clear Z16
  refine lv_aload_n hx hb dX7_comes_43 rfl (lv_at hl2 1 rfl) ?_
  refine lv_iload hx hb dX7_comes_44 (lv_at hl2 0 rfl) ?_
  refine lv_iconst (v := 3) hx hb dX7_comes_46 (by decide) ?_
  refine lv_iload_n hx hb dX7_comes_47 rfl (lv_at hl2 4 rfl) ?_
  refine zz_cv (WC := [(mo, .inr (7, [.ref ms, .ref mi, .ref ma, .int j3, .ref mts, .ref mtz, .ref mtn, .ref mh, .ref mhn, .ref mhw, .ref mhz, .ref mhr, .ref mcl, .ref mtp, .int j14, .int j15, .int j16, .int j17, .int j18, .int j19, .int j20, .int j21, .int j22, .int j23, .int j24, .ref mna, .ref mpi, .ref mca, .ref mwa, .int j29, .ref mrd])), (ms, .inl (kms, 3047, .inl f949))]) (TC := [(kms, .int)]) (WR := []) (TR := []) (k := 0) (n := 0) Z17 [0, 1] [] [0] [] rfl rfl (by decide +kernel) (by decide +kernel) (by decide +kernel) rfl rfl (fun Zc => va_runV (As := [.int 7, .int 3, .int yy]) (rest := []) X (c7_sets l D mo ms mi ma mts mtz mtn mh mhn mhw mhz mhr mcl mtp mna mpi mca mwa mrd j3 j14 j15 j16 j17 j18 j19 j20 j21 j22 j23 j24 j29 kms f949 8 a1 a2 a3 a4 a5 a6 a7 a8 a9 a10 7 3 yy p50 p51 p52 p53 p54 p55 p56 p57 p58 p59 p60 (zz_in _ 3047 (by decide)) (by decide) H14.size) (cwV 3 hts gX7_comes_X7_sets rfl rfl rfl ⟨rfl, zh_X7_sets⟩ ⟨Nat.le_of_ble_eq_true rfl, Nat.le_of_ble_eq_true rfl⟩) (zz_pV (ci := 7) Zc 0 rfl rfl) rfl rfl hl2.1 rfl (lv_room (Nat.le_of_ble_eq_true rfl)) dX7_comes_48 ⟨Nat.le_of_ble_eq_true rfl, Nat.le_of_ble_eq_true rfl⟩) rfl rfl (fun u62 H18 locs19 hw63 Z20 => ?_)
  clear Z17
  obtain ⟨f965, rfl⟩ : ∃ z, z = u62 := ⟨_, rfl⟩
  try dsimp only at hw63 Z20
  obtain ⟨⟨p66, p67, p68, p69, p70, p71, p72, p73, p74, p75, p76⟩, hx77⟩ := hw63
  have Z21 : zz_S D A s [(mo, .inr (7, [.ref ms, .ref mi, .ref ma, .int j3, .ref mts, .ref mtz, .ref mtn, .ref mh, .ref mhn, .ref mhw, .ref mhz, .ref mhr, .ref mcl, .ref mtp, .int j14, .int j15, .int j16, .int j17, .int j18, .int j19, .int j20, .int j21, .int j22, .int j23, .int j24, .ref mna, .ref mpi, .ref mca, .ref mwa, .int j29, .ref mrd])), (ms, .inl (kms, 3047, .inl f965))] [(kms, .int)] H18 locs19 := Z20
  clear Z20
  exact zz_vret X hr hlk Z21 (f965) ⟨⟨p66, p67, p68, p69, p70, p71, p72, p73, p74, p75, p76⟩, trivial⟩ [0, 1] [0] (by decide +kernel) rfl rfl dX7_comes_51

set_option maxHeartbeats 4000000 in
set_option maxRecDepth 100000 in
theorem c7_comes8 (l : Launch) (D : va_G) (mo : Nat) (ms : Nat) (mi : Nat) (ma : Nat) (mts : Nat) (mtz : Nat) (mtn : Nat) (mh : Nat) (mhn : Nat) (mhw : Nat) (mhz : Nat) (mhr : Nat) (mcl : Nat) (mtp : Nat) (mna : Nat) (mpi : Nat) (mca : Nat) (mwa : Nat) (mrd : Nat) (j3 : Int32) (j14 : Int32) (j15 : Int32) (j16 : Int32) (j17 : Int32) (j18 : Int32) (j19 : Int32) (j20 : Int32) (j21 : Int32) (j22 : Int32) (j23 : Int32) (j24 : Int32) (j29 : Int32) (kms : ClassId) (f : (Nat → Int32)) (a1 : Int32) (a2 : Int32) (a3 : Int32) (a4 : Int32) (a5 : Int32) (a6 : Int32) (a7 : Int32) (a8 : Int32) (a9 : Int32) (a10 : Int32) (kk : Int32) (pp : Int32) (yy : Int32) (af_0 : f 0 = 8) (af_1 : f 1 = a1) (af_2 : f 2 = a2) (af_3 : f 3 = a3) (af_4 : f 4 = a4) (af_5 : f 5 = a5) (af_6 : f 6 = a6) (af_7 : f 7 = a7) (af_8 : f 8 = a8) (af_9 : f 9 = a9) (af_10 : f 10 = a10) : zz_MV l yX7_comes wsX7_comes 1 23 0 0 D [.ref mo, .int kk, .int pp, .int yy] [(mo, .inr (7, [.ref ms, .ref mi, .ref ma, .int j3, .ref mts, .ref mtz, .ref mtn, .ref mh, .ref mhn, .ref mhw, .ref mhz, .ref mhr, .ref mcl, .ref mtp, .int j14, .int j15, .int j16, .int j17, .int j18, .int j19, .int j20, .int j21, .int j22, .int j23, .int j24, .ref mna, .ref mpi, .ref mca, .ref mwa, .int j29, .ref mrd])), (ms, .inl (kms, 3047, .inl f))] [(kms, .int)] (fun (f9 : (Nat → Int32)) => (f9 0 = 9 ∧ f9 1 = a1 ∧ f9 2 = a2 ∧ f9 3 = a3 ∧ f9 4 = a4 ∧ f9 5 = a5 ∧ f9 6 = a6 ∧ f9 7 = a7 ∧ f9 8 = a8 ∧ f9 9 = a9 ∧ f9 10 = a10) ∧ (True)) (fun (f9 : (Nat → Int32)) => [(mo, .inr (7, [.ref ms, .ref mi, .ref ma, .int j3, .ref mts, .ref mtz, .ref mtn, .ref mh, .ref mhn, .ref mhw, .ref mhz, .ref mhr, .ref mcl, .ref mtp, .int j14, .int j15, .int j16, .int j17, .int j18, .int j19, .int j20, .int j21, .int j22, .int j23, .int j24, .ref mna, .ref mpi, .ref mca, .ref mwa, .int j29, .ref mrd])), (ms, .inl (kms, 3047, .inl f9))]) (fun (f9 : (Nat → Int32)) => [(kms, .int)]) := by
  intro sz
  refine Met.ofW (cc := cX7_comes) (maxL := 5) (ret := none) (by decide) rfl ?_
  intro p e s m args below meth c s₁ B hml hv
  obtain ⟨rfl, hC⟩ := hv
  have hx := B.exec
  have hb := B.bytes
  have hr := B.returns
  have hts := atoms_spec (ws := wsX7_comes) B.pre
  have hown : s.vm.findClass RX7 = some m.cls := findClass_of_methodNamed B.named
  have hlk := B.notSynchronized
  have X : CallFix p m c cX7_comes 5 s _ wsX7_comes RX7 := ⟨hx, hb, hml, hown, hts⟩
  have Z := zz_enter hC
  generalize va_A [(mo, .inr (7, [.ref ms, .ref mi, .ref ma, .int j3, .ref mts, .ref mtz, .ref mtn, .ref mh, .ref mhn, .ref mhw, .ref mhz, .ref mhr, .ref mcl, .ref mtp, .int j14, .int j15, .int j16, .int j17, .int j18, .int j19, .int j20, .int j21, .int j22, .int j23, .int j24, .ref mna, .ref mpi, .ref mca, .ref mwa, .int j29, .ref mrd])), (ms, .inl (kms, 3047, .inl f))] sz = A at Z ⊢
  have hl := lv_entry ([.ref mo, .int kk, .int pp, .int yy]) (n := 5) (Nat.le_of_ble_eq_true rfl)
  rw [lg_entry_eq]
  generalize (lg_sl ([.ref mo, .int kk, .int pp, .int yy]) ++ List.replicate (5 - (lg_sl ([.ref mo, .int kk, .int pp, .int yy])).length) Slot.unset).toArray = ls at hl ⊢
  have hl : lv_has ls 5 [(0, .ref mo), (1, .int kk), (2, .int pp), (3, .int yy)] := hl
  refine lv_aload_n hx hb dX7_comes_0 rfl (lv_at hl 0 rfl) ?_
  refine zz_get X Z 0 rfl rfl (fun w h => List.mem_cons_of_mem _ (List.mem_append_right _ h)) 0 rfl (zz_m 1 rfl) rfl dX7_comes_1 ?_
  refine lv_iconst (v := 0) hx hb dX7_comes_4 (by decide) ?_
  refine zz_ild X Z 1 0 rfl rfl (zz_in 0 3047 rfl) dX7_comes_5 ?_
  refine zz_v (v := 8) af_0 ?_
  refine lv_istore (lv' := [(4, .int 8), (0, .ref mo), (1, .int kk), (2, .int pp), (3, .int yy)]) hx hb dX7_comes_6 hl (by decide) rfl (fun ls1 hl2 => ?_)
  clear hl
  refine lv_aload_n hx hb dX7_comes_8 rfl (lv_at hl2 1 rfl) ?_
  refine zz_get X Z 0 rfl rfl (fun w h => List.mem_cons_of_mem _ (List.mem_append_right _ h)) 0 rfl (zz_m 1 rfl) rfl dX7_comes_9 ?_
  refine lv_iconst (v := 0) hx hb dX7_comes_12 (by decide) ?_
  refine lv_dup2_11 hx hb dX7_comes_13 rfl rfl ?_
  refine zz_ild X Z 1 0 rfl rfl (zz_in 0 3047 rfl) dX7_comes_14 ?_
  refine zz_v (v := 8) af_0 ?_
  refine lv_iconst (v := 1) hx hb dX7_comes_15 (by decide) ?_
  refine lv_iadd hx hb dX7_comes_16 ?_
  refine zz_v (v := 9) (by decide) ?_
  refine zz_istN (WS' := fun f1 => [(mo, .inr (7, [.ref ms, .ref mi, .ref ma, .int j3, .ref mts, .ref mtz, .ref mtn, .ref mh, .ref mhn, .ref mhw, .ref mhz, .ref mhr, .ref mcl, .ref mtp, .int j14, .int j15, .int j16, .int j17, .int j18, .int j19, .int j20, .int j21, .int j22, .int j23, .int j24, .ref mna, .ref mpi, .ref mca, .ref mwa, .int j29, .ref mrd])), (ms, .inl (kms, 3047, .inl f1))]) X Z 1 0 rfl rfl (zz_in 0 3047 rfl) dX7_comes_17 (fun _ => rfl) (fun f1 ef2 H3 locs4 Z5 => ?_)
  clear Z
  have p3 : f1 0 = 9 := (by rw [ef2]; rfl)
  have p4 : f1 1 = a1 := (by rw [ef2]; exact af_1)
  have p5 : f1 2 = a2 := (by rw [ef2]; exact af_2)
  have p6 : f1 3 = a3 := (by rw [ef2]; exact af_3)
  have p7 : f1 4 = a4 := (by rw [ef2]; exact af_4)
  have p8 : f1 5 = a5 := (by rw [ef2]; exact af_5)
  have p9 : f1 6 = a6 := (by rw [ef2]; exact af_6)
  have p10 : f1 7 = a7 := (by rw [ef2]; exact af_7)
  have p11 : f1 8 = a8 := (by rw [ef2]; exact af_8)
  have p12 : f1 9 = a9 := (by rw [ef2]; exact af_9)
  have p13 : f1 10 = a10 := (by rw [ef2]; exact af_10)
  refine lv_aload_n hx hb dX7_comes_18 rfl (lv_at hl2 1 rfl) ?_
  refine lv_iload hx hb dX7_comes_19 (lv_at hl2 0 rfl) ?_
  refine lv_iconst (v := 0) hx hb dX7_comes_21 (by decide) ?_
  refine lv_iload_n hx hb dX7_comes_22 rfl (lv_at hl2 2 rfl) ?_
  refine zz_cv (WC := [(mo, .inr (7, [.ref ms, .ref mi, .ref ma, .int j3, .ref mts, .ref mtz, .ref mtn, .ref mh, .ref mhn, .ref mhw, .ref mhz, .ref mhr, .ref mcl, .ref mtp, .int j14, .int j15, .int j16, .int j17, .int j18, .int j19, .int j20, .int j21, .int j22, .int j23, .int j24, .ref mna, .ref mpi, .ref mca, .ref mwa, .int j29, .ref mrd])), (ms, .inl (kms, 3047, .inl f1))]) (TC := [(kms, .int)]) (WR := []) (TR := []) (k := 0) (n := 0) Z5 [0, 1] [] [0] [] rfl rfl (by decide +kernel) (by decide +kernel) (by decide +kernel) rfl rfl (fun Zc => va_runV (As := [.int 8, .int 0, .int kk]) (rest := []) X (c7_sets l D mo ms mi ma mts mtz mtn mh mhn mhw mhz mhr mcl mtp mna mpi mca mwa mrd j3 j14 j15 j16 j17 j18 j19 j20 j21 j22 j23 j24 j29 kms f1 9 a1 a2 a3 a4 a5 a6 a7 a8 a9 a10 8 0 kk p3 p4 p5 p6 p7 p8 p9 p10 p11 p12 p13 (zz_in _ 3047 (by decide)) (by decide) H3.size) (cwV 3 hts gX7_comes_X7_sets rfl rfl rfl ⟨rfl, zh_X7_sets⟩ ⟨Nat.le_of_ble_eq_true rfl, Nat.le_of_ble_eq_true rfl⟩) (zz_pV (ci := 7) Zc 0 rfl rfl) rfl rfl hl2.1 rfl (lv_room (Nat.le_of_ble_eq_true rfl)) dX7_comes_23 ⟨Nat.le_of_ble_eq_true rfl, Nat.le_of_ble_eq_true rfl⟩) rfl rfl (fun u14 H6 locs7 hw15 Z8 => ?_)
  clear Z5
  obtain ⟨f917, rfl⟩ : ∃ z, z = u14 := ⟨_, rfl⟩
  try dsimp only at hw15 Z8
  obtain ⟨⟨p18, p19, p20, p21, p22, p23, p24, p25, p26, p27, p28⟩, hx29⟩ := hw15
  have Z9 : zz_S D A s [(mo, .inr (7, [.ref ms, .ref mi, .ref ma, .int j3, .ref mts, .ref mtz, .ref mtn, .ref mh, .ref mhn, .ref mhw, .ref mhz, .ref mhr, .ref mcl, .ref mtp, .int j14, .int j15, .int j16, .int j17, .int j18, .int j19, .int j20, .int j21, .int j22, .int j23, .int j24, .ref mna, .ref mpi, .ref mca, .ref mwa, .int j29, .ref mrd])), (ms, .inl (kms, 3047, .inl f917))] [(kms, .int)] H6 locs7 := Z8
  clear Z8
  refine lv_aload_n hx hb dX7_comes_26 rfl (lv_at hl2 1 rfl) ?_
  refine lv_iload hx hb dX7_comes_27 (lv_at hl2 0 rfl) ?_
  refine lv_iconst (v := 1) hx hb dX7_comes_29 (by decide) ?_
  refine lv_iload_n hx hb dX7_comes_30 rfl (lv_at hl2 3 rfl) ?_
  refine zz_cv (WC := [(mo, .inr (7, [.ref ms, .ref mi, .ref ma, .int j3, .ref mts, .ref mtz, .ref mtn, .ref mh, .ref mhn, .ref mhw, .ref mhz, .ref mhr, .ref mcl, .ref mtp, .int j14, .int j15, .int j16, .int j17, .int j18, .int j19, .int j20, .int j21, .int j22, .int j23, .int j24, .ref mna, .ref mpi, .ref mca, .ref mwa, .int j29, .ref mrd])), (ms, .inl (kms, 3047, .inl f917))]) (TC := [(kms, .int)]) (WR := []) (TR := []) (k := 0) (n := 0) Z9 [0, 1] [] [0] [] rfl rfl (by decide +kernel) (by decide +kernel) (by decide +kernel) rfl rfl (fun Zc => va_runV (As := [.int 8, .int 1, .int pp]) (rest := []) X (c7_sets l D mo ms mi ma mts mtz mtn mh mhn mhw mhz mhr mcl mtp mna mpi mca mwa mrd j3 j14 j15 j16 j17 j18 j19 j20 j21 j22 j23 j24 j29 kms f917 9 a1 a2 a3 a4 a5 a6 a7 a8 a9 a10 8 1 pp p18 p19 p20 p21 p22 p23 p24 p25 p26 p27 p28 (zz_in _ 3047 (by decide)) (by decide) H6.size) (cwV 3 hts gX7_comes_X7_sets rfl rfl rfl ⟨rfl, zh_X7_sets⟩ ⟨Nat.le_of_ble_eq_true rfl, Nat.le_of_ble_eq_true rfl⟩) (zz_pV (ci := 7) Zc 0 rfl rfl) rfl rfl hl2.1 rfl (lv_room (Nat.le_of_ble_eq_true rfl)) dX7_comes_31 ⟨Nat.le_of_ble_eq_true rfl, Nat.le_of_ble_eq_true rfl⟩) rfl rfl (fun u30 H10 locs11 hw31 Z12 => ?_)
  clear Z9
  obtain ⟨f933, rfl⟩ : ∃ z, z = u30 := ⟨_, rfl⟩
  try dsimp only at hw31 Z12
  obtain ⟨⟨p34, p35, p36, p37, p38, p39, p40, p41, p42, p43, p44⟩, hx45⟩ := hw31
  have Z13 : zz_S D A s [(mo, .inr (7, [.ref ms, .ref mi, .ref ma, .int j3, .ref mts, .ref mtz, .ref mtn, .ref mh, .ref mhn, .ref mhw, .ref mhz, .ref mhr, .ref mcl, .ref mtp, .int j14, .int j15, .int j16, .int j17, .int j18, .int j19, .int j20, .int j21, .int j22, .int j23, .int j24, .ref mna, .ref mpi, .ref mca, .ref mwa, .int j29, .ref mrd])), (ms, .inl (kms, 3047, .inl f933))] [(kms, .int)] H10 locs11 := Z12
  clear Z12
  refine lv_aload_n hx hb dX7_comes_34 rfl (lv_at hl2 1 rfl) ?_
  refine lv_iload hx hb dX7_comes_35 (lv_at hl2 0 rfl) ?_
  refine lv_iconst (v := 2) hx hb dX7_comes_37 (by decide) ?_
  refine lv_bipush (v := 100) hx hb dX7_comes_38 (by decide) ?_
  refine zz_cv (WC := [(mo, .inr (7, [.ref ms, .ref mi, .ref ma, .int j3, .ref mts, .ref mtz, .ref mtn, .ref mh, .ref mhn, .ref mhw, .ref mhz, .ref mhr, .ref mcl, .ref mtp, .int j14, .int j15, .int j16, .int j17, .int j18, .int j19, .int j20, .int j21, .int j22, .int j23, .int j24, .ref mna, .ref mpi, .ref mca, .ref mwa, .int j29, .ref mrd])), (ms, .inl (kms, 3047, .inl f933))]) (TC := [(kms, .int)]) (WR := []) (TR := []) (k := 0) (n := 0) Z13 [0, 1] [] [0] [] rfl rfl (by decide +kernel) (by decide +kernel) (by decide +kernel) rfl rfl (fun Zc => va_runV (As := [.int 8, .int 2, .int 100]) (rest := []) X (c7_sets l D mo ms mi ma mts mtz mtn mh mhn mhw mhz mhr mcl mtp mna mpi mca mwa mrd j3 j14 j15 j16 j17 j18 j19 j20 j21 j22 j23 j24 j29 kms f933 9 a1 a2 a3 a4 a5 a6 a7 a8 a9 a10 8 2 100 p34 p35 p36 p37 p38 p39 p40 p41 p42 p43 p44 (zz_in _ 3047 (by decide)) (by decide) H10.size) (cwV 3 hts gX7_comes_X7_sets rfl rfl rfl ⟨rfl, zh_X7_sets⟩ ⟨Nat.le_of_ble_eq_true rfl, Nat.le_of_ble_eq_true rfl⟩) (zz_pV (ci := 7) Zc 0 rfl rfl) rfl rfl hl2.1 rfl (lv_room (Nat.le_of_ble_eq_true rfl)) dX7_comes_40 ⟨Nat.le_of_ble_eq_true rfl, Nat.le_of_ble_eq_true rfl⟩) rfl rfl (fun u46 H14 locs15 hw47 Z16 => ?_)
  clear Z13
  obtain ⟨f949, rfl⟩ : ∃ z, z = u46 := ⟨_, rfl⟩
  try dsimp only at hw47 Z16
  obtain ⟨⟨p50, p51, p52, p53, p54, p55, p56, p57, p58, p59, p60⟩, hx61⟩ := hw47
  have Z17 : zz_S D A s [(mo, .inr (7, [.ref ms, .ref mi, .ref ma, .int j3, .ref mts, .ref mtz, .ref mtn, .ref mh, .ref mhn, .ref mhw, .ref mhz, .ref mhr, .ref mcl, .ref mtp, .int j14, .int j15, .int j16, .int j17, .int j18, .int j19, .int j20, .int j21, .int j22, .int j23, .int j24, .ref mna, .ref mpi, .ref mca, .ref mwa, .int j29, .ref mrd])), (ms, .inl (kms, 3047, .inl f949))] [(kms, .int)] H14 locs15 := Z16
  clear Z16
  refine lv_aload_n hx hb dX7_comes_43 rfl (lv_at hl2 1 rfl) ?_
  refine lv_iload hx hb dX7_comes_44 (lv_at hl2 0 rfl) ?_
  refine lv_iconst (v := 3) hx hb dX7_comes_46 (by decide) ?_
  refine lv_iload_n hx hb dX7_comes_47 rfl (lv_at hl2 4 rfl) ?_
  refine zz_cv (WC := [(mo, .inr (7, [.ref ms, .ref mi, .ref ma, .int j3, .ref mts, .ref mtz, .ref mtn, .ref mh, .ref mhn, .ref mhw, .ref mhz, .ref mhr, .ref mcl, .ref mtp, .int j14, .int j15, .int j16, .int j17, .int j18, .int j19, .int j20, .int j21, .int j22, .int j23, .int j24, .ref mna, .ref mpi, .ref mca, .ref mwa, .int j29, .ref mrd])), (ms, .inl (kms, 3047, .inl f949))]) (TC := [(kms, .int)]) (WR := []) (TR := []) (k := 0) (n := 0) Z17 [0, 1] [] [0] [] rfl rfl (by decide +kernel) (by decide +kernel) (by decide +kernel) rfl rfl (fun Zc => va_runV (As := [.int 8, .int 3, .int yy]) (rest := []) X (c7_sets l D mo ms mi ma mts mtz mtn mh mhn mhw mhz mhr mcl mtp mna mpi mca mwa mrd j3 j14 j15 j16 j17 j18 j19 j20 j21 j22 j23 j24 j29 kms f949 9 a1 a2 a3 a4 a5 a6 a7 a8 a9 a10 8 3 yy p50 p51 p52 p53 p54 p55 p56 p57 p58 p59 p60 (zz_in _ 3047 (by decide)) (by decide) H14.size) (cwV 3 hts gX7_comes_X7_sets rfl rfl rfl ⟨rfl, zh_X7_sets⟩ ⟨Nat.le_of_ble_eq_true rfl, Nat.le_of_ble_eq_true rfl⟩) (zz_pV (ci := 7) Zc 0 rfl rfl) rfl rfl hl2.1 rfl (lv_room (Nat.le_of_ble_eq_true rfl)) dX7_comes_48 ⟨Nat.le_of_ble_eq_true rfl, Nat.le_of_ble_eq_true rfl⟩) rfl rfl (fun u62 H18 locs19 hw63 Z20 => ?_)
  clear Z17
  obtain ⟨f965, rfl⟩ : ∃ z, z = u62 := ⟨_, rfl⟩
  try dsimp only at hw63 Z20
  obtain ⟨⟨p66, p67, p68, p69, p70, p71, p72, p73, p74, p75, p76⟩, hx77⟩ := hw63
  have Z21 : zz_S D A s [(mo, .inr (7, [.ref ms, .ref mi, .ref ma, .int j3, .ref mts, .ref mtz, .ref mtn, .ref mh, .ref mhn, .ref mhw, .ref mhz, .ref mhr, .ref mcl, .ref mtp, .int j14, .int j15, .int j16, .int j17, .int j18, .int j19, .int j20, .int j21, .int j22, .int j23, .int j24, .ref mna, .ref mpi, .ref mca, .ref mwa, .int j29, .ref mrd])), (ms, .inl (kms, 3047, .inl f965))] [(kms, .int)] H18 locs19 := Z20
  clear Z20
  exact zz_vret X hr hlk Z21 (f965) ⟨⟨p66, p67, p68, p69, p70, p71, p72, p73, p74, p75, p76⟩, trivial⟩ [0, 1] [0] (by decide +kernel) rfl rfl dX7_comes_51

set_option maxHeartbeats 4000000 in
set_option maxRecDepth 100000 in
theorem c7_stall (l : Launch) (D : va_G) (mo : Nat) (ms : Nat) (mi : Nat) (ma : Nat) (mts : Nat) (mtz : Nat) (mtn : Nat) (mh : Nat) (mhn : Nat) (mhw : Nat) (mhz : Nat) (mhr : Nat) (mcl : Nat) (mtp : Nat) (mna : Nat) (mpi : Nat) (mca : Nat) (mwa : Nat) (mrd : Nat) (kms : ClassId) (f : (Nat → Int32)) (kind : Int32) (place : Int32) (pay : Int32) (af_0 : f 0 = 0) (af_1 : f 1 = 0) (af_2 : f 2 = 0) (af_3 : f 3 = 0) (af_4 : f 4 = 0) (af_5 : f 5 = 0) (af_6 : f 6 = 1) (af_7 : f 7 = 0) (af_8 : f 8 = 3) (af_9 : f 9 = 10) (af_10 : f 10 = 0) : zz_MI l yX7_stall wsX7_stall 2 47 0 0 D [.ref mo, .int kind, .int place, .int pay] [(mo, .inr (7, [.ref ms, .ref mi, .ref ma, .int 0, .ref mts, .ref mtz, .ref mtn, .ref mh, .ref mhn, .ref mhw, .ref mhz, .ref mhr, .ref mcl, .ref mtp, .int 0, .int 0, .int 0, .int 0, .int 0, .int 0, .int 0, .int 0, .int 0, .int 0, .int 0, .ref mna, .ref mpi, .ref mca, .ref mwa, .int 0, .ref mrd])), (ms, .inl (kms, 3047, .inl f))] [(kms, .int)] (fun (r : Int32) (u : Unit) => r = sp_stall kind place pay) (fun (u : Unit) => []) (fun (u : Unit) => []) := by
  intro sz
  refine Met.ofW (cc := cX7_stall) (maxL := 4) (ret := (some .int)) (by decide) rfl ?_
  intro p e s m args below meth c s₁ B hml hv
  obtain ⟨rfl, hC⟩ := hv
  have hx := B.exec
  have hb := B.bytes
  have hr := B.returns
  have hts := atoms_spec (ws := wsX7_stall) B.pre
  have hown : s.vm.findClass RX7 = some m.cls := findClass_of_methodNamed B.named
  have hlk := B.notSynchronized
  have X : CallFix p m c cX7_stall 4 s _ wsX7_stall RX7 := ⟨hx, hb, hml, hown, hts⟩
  have Z := zz_enter hC
  generalize va_A [(mo, .inr (7, [.ref ms, .ref mi, .ref ma, .int 0, .ref mts, .ref mtz, .ref mtn, .ref mh, .ref mhn, .ref mhw, .ref mhz, .ref mhr, .ref mcl, .ref mtp, .int 0, .int 0, .int 0, .int 0, .int 0, .int 0, .int 0, .int 0, .int 0, .int 0, .int 0, .ref mna, .ref mpi, .ref mca, .ref mwa, .int 0, .ref mrd])), (ms, .inl (kms, 3047, .inl f))] sz = A at Z ⊢
  have hl := lv_entry ([.ref mo, .int kind, .int place, .int pay]) (n := 4) (Nat.le_of_ble_eq_true rfl)
  rw [lg_entry_eq]
  generalize (lg_sl ([.ref mo, .int kind, .int place, .int pay]) ++ List.replicate (4 - (lg_sl ([.ref mo, .int kind, .int place, .int pay])).length) Slot.unset).toArray = ls at hl ⊢
  have hl : lv_has ls 4 [(0, .ref mo), (1, .int kind), (2, .int place), (3, .int pay)] := hl
  refine lv_iload_n hx hb dX7_stall_0 rfl (lv_at hl 1 rfl) ?_
  refine lv_i2l (v := Int32.toInt64 kind) hx hb dX7_stall_1 rfl ?_
  refine lv_lconst (v := 0) hx hb dX7_stall_2 (by decide) ?_
  refine zz_vl (v := Int32.toInt64 0) (by decide) ?_
  refine lv_ldc2 (v := 5) hx hb hown (hts _ (zz_m 1 rfl)) dX7_stall_3 ?_
  refine zz_vl (v := Int32.toInt64 5) (by decide) ?_
  refine zz_ci (WC := []) (TC := []) (WR := [(mo, .inr (7, [.ref ms, .ref mi, .ref ma, .int 0, .ref mts, .ref mtz, .ref mtn, .ref mh, .ref mhn, .ref mhw, .ref mhz, .ref mhr, .ref mcl, .ref mtp, .int 0, .int 0, .int 0, .int 0, .int 0, .int 0, .int 0, .int 0, .int 0, .int 0, .int 0, .ref mna, .ref mpi, .ref mca, .ref mwa, .int 0, .ref mrd])), (ms, .inl (kms, 3047, .inl f))]) (TR := [(kms, .int)]) (k := 0) (n := 0) Z [] [0, 1] [] [0] rfl rfl (by decide +kernel) (by decide +kernel) (by decide +kernel) rfl rfl (fun Zc => va_runS (As := [.long (Int32.toInt64 kind), .long (Int32.toInt64 0), .long (Int32.toInt64 5)]) (rest := []) X (c_isIn l D kind 0 5 s.heap.size) (va_cwS 3 hts gX7_stall_X7_isIn rfl rfl rfl zh_X7_isIn ⟨Nat.le_of_ble_eq_true rfl, Nat.le_of_ble_eq_true rfl⟩) (zz_pS Zc) rfl rfl hl.1 rfl (lv_room (Nat.le_of_ble_eq_true rfl)) dX7_stall_6 ⟨Nat.le_of_ble_eq_true rfl, Nat.le_of_ble_eq_true rfl⟩) rfl rfl (fun r3 u1 H1 locs2 hw2 Z3 => ?_)
  clear Z
  subst r3
  have Z4 : zz_S D A s [(mo, .inr (7, [.ref ms, .ref mi, .ref ma, .int 0, .ref mts, .ref mtz, .ref mtn, .ref mh, .ref mhn, .ref mhw, .ref mhz, .ref mhr, .ref mcl, .ref mtp, .int 0, .int 0, .int 0, .int 0, .int 0, .int 0, .int 0, .int 0, .int 0, .int 0, .int 0, .ref mna, .ref mpi, .ref mca, .ref mwa, .int 0, .ref mrd])), (ms, .inl (kms, 3047, .inl f))] [(kms, .int)] H1 locs2 := Z3
  clear Z3
  by_cases w4 : 0 ≤ kind ∧ kind ≤ 5
  · refine zz_v (v := 1) (zz_wiT w4) ?_
    refine lv_if_eq (tgt := 36) hx hb dX7_stall_9 (by decide) (fun h => absurd h (by decide)) (fun _ => ?_)
    refine lv_iload_n hx hb dX7_stall_12 rfl (lv_at hl 2 rfl) ?_
    refine lv_i2l (v := Int32.toInt64 place) hx hb dX7_stall_13 rfl ?_
    refine lv_lconst (v := 0) hx hb dX7_stall_14 (by decide) ?_
    refine zz_vl (v := Int32.toInt64 0) (by decide) ?_
    refine lv_ldc2 (v := 11) hx hb hown (hts _ (zz_m 2 rfl)) dX7_stall_15 ?_
    refine zz_vl (v := Int32.toInt64 11) (by decide) ?_
    refine zz_ci (WC := []) (TC := []) (WR := [(mo, .inr (7, [.ref ms, .ref mi, .ref ma, .int 0, .ref mts, .ref mtz, .ref mtn, .ref mh, .ref mhn, .ref mhw, .ref mhz, .ref mhr, .ref mcl, .ref mtp, .int 0, .int 0, .int 0, .int 0, .int 0, .int 0, .int 0, .int 0, .int 0, .int 0, .int 0, .ref mna, .ref mpi, .ref mca, .ref mwa, .int 0, .ref mrd])), (ms, .inl (kms, 3047, .inl f))]) (TR := [(kms, .int)]) (k := 0) (n := 0) Z4 [] [0, 1] [] [0] rfl rfl (by decide +kernel) (by decide +kernel) (by decide +kernel) rfl rfl (fun Zc => va_runS (As := [.long (Int32.toInt64 place), .long (Int32.toInt64 0), .long (Int32.toInt64 11)]) (rest := []) X (c_isIn l D place 0 11 H1.size) (va_cwS 3 hts gX7_stall_X7_isIn rfl rfl rfl zh_X7_isIn ⟨Nat.le_of_ble_eq_true rfl, Nat.le_of_ble_eq_true rfl⟩) (zz_pS Zc) rfl rfl hl.1 rfl (lv_room (Nat.le_of_ble_eq_true rfl)) dX7_stall_18 ⟨Nat.le_of_ble_eq_true rfl, Nat.le_of_ble_eq_true rfl⟩) rfl rfl (fun r7 u5 H5 locs6 hw6 Z7 => ?_)
    clear Z4
    subst r7
    have Z8 : zz_S D A s [(mo, .inr (7, [.ref ms, .ref mi, .ref ma, .int 0, .ref mts, .ref mtz, .ref mtn, .ref mh, .ref mhn, .ref mhw, .ref mhz, .ref mhr, .ref mcl, .ref mtp, .int 0, .int 0, .int 0, .int 0, .int 0, .int 0, .int 0, .int 0, .int 0, .int 0, .int 0, .ref mna, .ref mpi, .ref mca, .ref mwa, .int 0, .ref mrd])), (ms, .inl (kms, 3047, .inl f))] [(kms, .int)] H5 locs6 := Z7
    clear Z7
    by_cases w8 : 0 ≤ place ∧ place ≤ 11
    · refine zz_v (v := 1) (zz_wiT w8) ?_
      refine lv_if_eq (tgt := 36) hx hb dX7_stall_21 (by decide) (fun h => absurd h (by decide)) (fun _ => ?_)
      refine lv_iload_n hx hb dX7_stall_24 rfl (lv_at hl 3 rfl) ?_
      refine lv_i2l (v := Int32.toInt64 pay) hx hb dX7_stall_25 rfl ?_
      refine lv_lconst (v := 0) hx hb dX7_stall_26 (by decide) ?_
      refine zz_vl (v := Int32.toInt64 0) (by decide) ?_
      refine lv_ldc2 (v := 99) hx hb hown (hts _ (zz_m 3 rfl)) dX7_stall_27 ?_
      refine zz_vl (v := Int32.toInt64 99) (by decide) ?_
      refine zz_ci (WC := []) (TC := []) (WR := [(mo, .inr (7, [.ref ms, .ref mi, .ref ma, .int 0, .ref mts, .ref mtz, .ref mtn, .ref mh, .ref mhn, .ref mhw, .ref mhz, .ref mhr, .ref mcl, .ref mtp, .int 0, .int 0, .int 0, .int 0, .int 0, .int 0, .int 0, .int 0, .int 0, .int 0, .int 0, .ref mna, .ref mpi, .ref mca, .ref mwa, .int 0, .ref mrd])), (ms, .inl (kms, 3047, .inl f))]) (TR := [(kms, .int)]) (k := 0) (n := 0) Z8 [] [0, 1] [] [0] rfl rfl (by decide +kernel) (by decide +kernel) (by decide +kernel) rfl rfl (fun Zc => va_runS (As := [.long (Int32.toInt64 pay), .long (Int32.toInt64 0), .long (Int32.toInt64 99)]) (rest := []) X (c_isIn l D pay 0 99 H5.size) (va_cwS 3 hts gX7_stall_X7_isIn rfl rfl rfl zh_X7_isIn ⟨Nat.le_of_ble_eq_true rfl, Nat.le_of_ble_eq_true rfl⟩) (zz_pS Zc) rfl rfl hl.1 rfl (lv_room (Nat.le_of_ble_eq_true rfl)) dX7_stall_30 ⟨Nat.le_of_ble_eq_true rfl, Nat.le_of_ble_eq_true rfl⟩) rfl rfl (fun r11 u9 H9 locs10 hw10 Z11 => ?_)
      clear Z8
      subst r11
      have Z12 : zz_S D A s [(mo, .inr (7, [.ref ms, .ref mi, .ref ma, .int 0, .ref mts, .ref mtz, .ref mtn, .ref mh, .ref mhn, .ref mhw, .ref mhz, .ref mhr, .ref mcl, .ref mtp, .int 0, .int 0, .int 0, .int 0, .int 0, .int 0, .int 0, .int 0, .int 0, .int 0, .int 0, .ref mna, .ref mpi, .ref mca, .ref mwa, .int 0, .ref mrd])), (ms, .inl (kms, 3047, .inl f))] [(kms, .int)] H9 locs10 := Z11
      clear Z11
      by_cases w12 : 0 ≤ pay ∧ pay ≤ 99
      · refine zz_v (v := 1) (zz_wiT w12) ?_
        refine lv_if_ne (tgt := 39) hx hb dX7_stall_33 (by decide) (fun _ => ?_) (fun h => absurd h (by decide))
        refine lv_aload_n hx hb dX7_stall_39 rfl (lv_at hl 0 rfl) ?_
        refine zz_get X Z12 0 rfl rfl (fun w h => List.mem_cons_of_mem _ (List.mem_append_right _ h)) 0 rfl (zz_m 5 rfl) rfl dX7_stall_40 ?_
        refine lv_iconst (v := 0) hx hb dX7_stall_43 (by decide) ?_
        refine zz_ild X Z12 1 0 rfl rfl (zz_in 0 3047 rfl) dX7_stall_44 ?_
        refine zz_v (v := 0) af_0 ?_
        refine lv_bipush (v := 9) hx hb dX7_stall_45 (by decide) ?_
        refine lv_icmp_ne (tgt := 53) hx hb dX7_stall_47 (by decide) (fun _ => ?_) (fun h => absurd h (by decide))
        refine lv_aload_n hx hb dX7_stall_53 rfl (lv_at hl 0 rfl) ?_
        refine lv_iload_n hx hb dX7_stall_54 rfl (lv_at hl 1 rfl) ?_
        refine lv_iload_n hx hb dX7_stall_55 rfl (lv_at hl 2 rfl) ?_
        refine lv_iload_n hx hb dX7_stall_56 rfl (lv_at hl 3 rfl) ?_
        refine zz_cv (WC := [(mo, .inr (7, [.ref ms, .ref mi, .ref ma, .int 0, .ref mts, .ref mtz, .ref mtn, .ref mh, .ref mhn, .ref mhw, .ref mhz, .ref mhr, .ref mcl, .ref mtp, .int 0, .int 0, .int 0, .int 0, .int 0, .int 0, .int 0, .int 0, .int 0, .int 0, .int 0, .ref mna, .ref mpi, .ref mca, .ref mwa, .int 0, .ref mrd])), (ms, .inl (kms, 3047, .inl f))]) (TC := [(kms, .int)]) (WR := []) (TR := []) (k := 0) (n := 0) Z12 [0, 1] [] [0] [] rfl rfl (by decide +kernel) (by decide +kernel) (by decide +kernel) rfl rfl (fun Zc => va_runV (As := [.int kind, .int place, .int pay]) (rest := []) X (c7_comes0 l D mo ms mi ma mts mtz mtn mh mhn mhw mhz mhr mcl mtp mna mpi mca mwa mrd 0 0 0 0 0 0 0 0 0 0 0 0 0 kms f 0 0 0 0 0 1 0 3 10 0 kind place pay af_0 af_1 af_2 af_3 af_4 af_5 af_6 af_7 af_8 af_9 af_10 H9.size) (cwV 3 hts gX7_stall_X7_comes rfl rfl rfl ⟨rfl, zh_X7_comes⟩ ⟨Nat.le_of_ble_eq_true rfl, Nat.le_of_ble_eq_true rfl⟩) (zz_pV (ci := 7) Zc 0 rfl rfl) rfl rfl hl.1 rfl (lv_room (Nat.le_of_ble_eq_true rfl)) dX7_stall_57 ⟨Nat.le_of_ble_eq_true rfl, Nat.le_of_ble_eq_true rfl⟩) rfl rfl (fun u13 H13 locs14 hw14 Z15 => ?_)
        clear Z12
        obtain ⟨f916, rfl⟩ : ∃ z, z = u13 := ⟨_, rfl⟩
        try dsimp only at hw14 Z15
        obtain ⟨⟨p17, p18, p19, p20, p21, p22, p23, p24, p25, p26, p27⟩, hx28⟩ := hw14
        have Z16 : zz_S D A s [(mo, .inr (7, [.ref ms, .ref mi, .ref ma, .int 0, .ref mts, .ref mtz, .ref mtn, .ref mh, .ref mhn, .ref mhw, .ref mhz, .ref mhr, .ref mcl, .ref mtp, .int 0, .int 0, .int 0, .int 0, .int 0, .int 0, .int 0, .int 0, .int 0, .int 0, .int 0, .ref mna, .ref mpi, .ref mca, .ref mwa, .int 0, .ref mrd])), (ms, .inl (kms, 3047, .inl f916))] [(kms, .int)] H13 locs14 := Z15
        clear Z15
        refine lv_aload_n hx hb dX7_stall_60 rfl (lv_at hl 0 rfl) ?_
        refine zz_get X Z16 0 rfl rfl (fun w h => List.mem_cons_of_mem _ (List.mem_append_right _ h)) 0 rfl (zz_m 5 rfl) rfl dX7_stall_61 ?_
        refine lv_iconst (v := 0) hx hb dX7_stall_64 (by decide) ?_
        refine zz_ild X Z16 1 0 rfl rfl (zz_in 0 3047 rfl) dX7_stall_65 ?_
        refine zz_v (v := 1) p17 ?_
        refine lv_iconst (v := 1) hx hb dX7_stall_66 (by decide) ?_
        refine lv_isub hx hb dX7_stall_67 ?_
        refine zz_v (v := 0) (by decide) ?_
        exact zz_iret X hr hlk Z16 () (by simp [sp_stall, w4, w8, w12]) [] [] (by decide +kernel) rfl rfl dX7_stall_68
      · refine zz_v (v := 0) (zz_wiF w12) ?_
        refine lv_if_ne (tgt := 39) hx hb dX7_stall_33 (by decide) (fun h => absurd (by decide) h) (fun _ => ?_)
        refine lv_ldc (v := (-1000000001)) hx hb hown (hts _ (zz_m 4 rfl)) dX7_stall_36 ?_
        exact zz_iret X hr hlk Z12 () (by simp [sp_stall, w4, w8, w12]) [] [] (by decide +kernel) rfl rfl dX7_stall_38
    · refine zz_v (v := 0) (zz_wiF w8) ?_
      refine lv_if_eq (tgt := 36) hx hb dX7_stall_21 (by decide) (fun _ => ?_) (fun h => absurd (by decide) h)
      refine lv_ldc (v := (-1000000001)) hx hb hown (hts _ (zz_m 4 rfl)) dX7_stall_36 ?_
      exact zz_iret X hr hlk Z8 () (by simp [sp_stall, w4, w8]) [] [] (by decide +kernel) rfl rfl dX7_stall_38
  · refine zz_v (v := 0) (zz_wiF w4) ?_
    refine lv_if_eq (tgt := 36) hx hb dX7_stall_9 (by decide) (fun _ => ?_) (fun h => absurd (by decide) h)
    refine lv_ldc (v := (-1000000001)) hx hb hown (hts _ (zz_m 4 rfl)) dX7_stall_36 ?_
    exact zz_iret X hr hlk Z4 () (by simp [sp_stall, w4]) [] [] (by decide +kernel) rfl rfl dX7_stall_38

set_option maxHeartbeats 4000000 in
set_option maxRecDepth 100000 in
theorem c7_deal (l : Launch) (D : va_G) (mo : Nat) (ms : Nat) (mi : Nat) (ma : Nat) (mts : Nat) (mtz : Nat) (mtn : Nat) (mh : Nat) (mhn : Nat) (mhw : Nat) (mhz : Nat) (mhr : Nat) (mcl : Nat) (mtp : Nat) (mna : Nat) (mpi : Nat) (mca : Nat) (mwa : Nat) (mrd : Nat) (kms : ClassId) (f : (Nat → Int32)) (n : Int32) (af_0 : f 0 = 0) (af_1 : f 1 = 0) (af_2 : f 2 = 0) (af_3 : f 3 = 0) (af_4 : f 4 = 0) (af_5 : f 5 = 0) (af_6 : f 6 = 1) (af_7 : f 7 = 0) (af_8 : f 8 = 3) (af_9 : f 9 = 10) (af_10 : f 10 = 0) : zz_MI l yX7_deal wsX7_deal 2 47 0 0 D [.ref mo, .int n] [(mo, .inr (7, [.ref ms, .ref mi, .ref ma, .int 0, .ref mts, .ref mtz, .ref mtn, .ref mh, .ref mhn, .ref mhw, .ref mhz, .ref mhr, .ref mcl, .ref mtp, .int 0, .int 0, .int 0, .int 0, .int 0, .int 0, .int 0, .int 0, .int 0, .int 0, .int 0, .ref mna, .ref mpi, .ref mca, .ref mwa, .int 0, .ref mrd])), (ms, .inl (kms, 3047, .inl f))] [(kms, .int)] (fun (r : Int32) (u : Unit) => r = sp_deal n) (fun (u : Unit) => []) (fun (u : Unit) => []) := by
  intro sz
  refine Met.ofW (cc := cX7_deal) (maxL := 5) (ret := (some .int)) (by decide) rfl ?_
  intro p e s m args below meth c s₁ B hml hv
  obtain ⟨rfl, hC⟩ := hv
  have hx := B.exec
  have hb := B.bytes
  have hr := B.returns
  have hts := atoms_spec (ws := wsX7_deal) B.pre
  have hown : s.vm.findClass RX7 = some m.cls := findClass_of_methodNamed B.named
  have hlk := B.notSynchronized
  have X : CallFix p m c cX7_deal 5 s _ wsX7_deal RX7 := ⟨hx, hb, hml, hown, hts⟩
  have Z := zz_enter hC
  generalize va_A [(mo, .inr (7, [.ref ms, .ref mi, .ref ma, .int 0, .ref mts, .ref mtz, .ref mtn, .ref mh, .ref mhn, .ref mhw, .ref mhz, .ref mhr, .ref mcl, .ref mtp, .int 0, .int 0, .int 0, .int 0, .int 0, .int 0, .int 0, .int 0, .int 0, .int 0, .int 0, .ref mna, .ref mpi, .ref mca, .ref mwa, .int 0, .ref mrd])), (ms, .inl (kms, 3047, .inl f))] sz = A at Z ⊢
  have hl := lv_entry ([.ref mo, .int n]) (n := 5) (Nat.le_of_ble_eq_true rfl)
  rw [lg_entry_eq]
  generalize (lg_sl ([.ref mo, .int n]) ++ List.replicate (5 - (lg_sl ([.ref mo, .int n])).length) Slot.unset).toArray = ls at hl ⊢
  have hl : lv_has ls 5 [(0, .ref mo), (1, .int n)] := hl
  refine lv_iload_n hx hb dX7_deal_0 rfl (lv_at hl 1 rfl) ?_
  refine lv_i2l (v := Int32.toInt64 n) hx hb dX7_deal_1 rfl ?_
  refine lv_lconst (v := 1) hx hb dX7_deal_2 (by decide) ?_
  refine zz_vl (v := Int32.toInt64 1) (by decide) ?_
  refine lv_ldc2 (v := 9) hx hb hown (hts _ (zz_m 1 rfl)) dX7_deal_3 ?_
  refine zz_vl (v := Int32.toInt64 9) (by decide) ?_
  refine zz_ci (WC := []) (TC := []) (WR := [(mo, .inr (7, [.ref ms, .ref mi, .ref ma, .int 0, .ref mts, .ref mtz, .ref mtn, .ref mh, .ref mhn, .ref mhw, .ref mhz, .ref mhr, .ref mcl, .ref mtp, .int 0, .int 0, .int 0, .int 0, .int 0, .int 0, .int 0, .int 0, .int 0, .int 0, .int 0, .ref mna, .ref mpi, .ref mca, .ref mwa, .int 0, .ref mrd])), (ms, .inl (kms, 3047, .inl f))]) (TR := [(kms, .int)]) (k := 0) (n := 0) Z [] [0, 1] [] [0] rfl rfl (by decide +kernel) (by decide +kernel) (by decide +kernel) rfl rfl (fun Zc => va_runS (As := [.long (Int32.toInt64 n), .long (Int32.toInt64 1), .long (Int32.toInt64 9)]) (rest := []) X (c_isIn l D n 1 9 s.heap.size) (va_cwS 3 hts gX7_deal_X7_isIn rfl rfl rfl zh_X7_isIn ⟨Nat.le_of_ble_eq_true rfl, Nat.le_of_ble_eq_true rfl⟩) (zz_pS Zc) rfl rfl hl.1 rfl (lv_room (Nat.le_of_ble_eq_true rfl)) dX7_deal_6 ⟨Nat.le_of_ble_eq_true rfl, Nat.le_of_ble_eq_true rfl⟩) rfl rfl (fun r3 u1 H1 locs2 hw2 Z3 => ?_)
  clear Z
  subst r3
  have Z4 : zz_S D A s [(mo, .inr (7, [.ref ms, .ref mi, .ref ma, .int 0, .ref mts, .ref mtz, .ref mtn, .ref mh, .ref mhn, .ref mhw, .ref mhz, .ref mhr, .ref mcl, .ref mtp, .int 0, .int 0, .int 0, .int 0, .int 0, .int 0, .int 0, .int 0, .int 0, .int 0, .int 0, .ref mna, .ref mpi, .ref mca, .ref mwa, .int 0, .ref mrd])), (ms, .inl (kms, 3047, .inl f))] [(kms, .int)] H1 locs2 := Z3
  clear Z3
  by_cases w4 : 1 ≤ n ∧ n ≤ 9
  · refine zz_v (v := 1) (zz_wiT w4) ?_
    refine lv_if_ne (tgt := 15) hx hb dX7_deal_9 (by decide) (fun _ => ?_) (fun h => absurd h (by decide))
    refine lv_iconst (v := 0) hx hb dX7_deal_15 (by decide) ?_
    refine lv_istore_n (lv' := [(2, .int 0), (0, .ref mo), (1, .int n)]) hx hb dX7_deal_16 rfl hl (by decide) rfl (fun ls5 hl6 => ?_)
    clear hl
    refine lv_iload_n hx hb dX7_deal_17 rfl (lv_at hl6 0 rfl) ?_
    refine lv_iload_n hx hb dX7_deal_18 rfl (lv_at hl6 2 rfl) ?_
    refine lv_icmp_ge (tgt := 70) hx hb dX7_deal_19 (by decide) (fun b5 => ?_) (fun b5 => ?_)
    · refine lv_iload_n hx hb dX7_deal_70 rfl (lv_at hl6 0 rfl) ?_
      exact zz_iret X hr hlk Z4 () (zz_deal0 w4 b5) [] [] (by decide +kernel) rfl rfl dX7_deal_71
    · refine lv_aload_n hx hb dX7_deal_22 rfl (lv_at hl6 1 rfl) ?_
      refine zz_get X Z4 0 rfl rfl (fun w h => List.mem_cons_of_mem _ (List.mem_append_right _ h)) 0 rfl (zz_m 3 rfl) rfl dX7_deal_23 ?_
      refine lv_iconst (v := 0) hx hb dX7_deal_26 (by decide) ?_
      refine zz_ild X Z4 1 0 rfl rfl (zz_in 0 3047 rfl) dX7_deal_27 ?_
      refine zz_v (v := 0) af_0 ?_
      refine lv_bipush (v := 9) hx hb dX7_deal_28 (by decide) ?_
      refine lv_icmp_ge (tgt := 70) hx hb dX7_deal_30 (by decide) (fun h => absurd h (by decide)) (fun _ => ?_)
      refine lv_aload_n hx hb dX7_deal_33 rfl (lv_at hl6 1 rfl) ?_
      refine zz_ci (WC := [(mo, .inr (7, [.ref ms, .ref mi, .ref ma, .int 0, .ref mts, .ref mtz, .ref mtn, .ref mh, .ref mhn, .ref mhw, .ref mhz, .ref mhr, .ref mcl, .ref mtp, .int 0, .int 0, .int 0, .int 0, .int 0, .int 0, .int 0, .int 0, .int 0, .int 0, .int 0, .ref mna, .ref mpi, .ref mca, .ref mwa, .int 0, .ref mrd])), (ms, .inl (kms, 3047, .inl f))]) (TC := [(kms, .int)]) (WR := []) (TR := []) (k := 0) (n := 0) Z4 [0, 1] [] [0] [] rfl rfl (by decide +kernel) (by decide +kernel) (by decide +kernel) rfl rfl (fun Zc => va_runV (As := []) (rest := []) X (c7_drawn l D mo ms mi ma mts mtz mtn mh mhn mhw mhz mhr mcl mtp mna mpi mca mwa mrd 0 0 0 0 0 0 0 0 0 0 0 0 0 kms f 0 0 0 0 0 0 1 0 3 10 0 af_0 af_1 af_2 af_3 af_4 af_5 af_6 af_7 af_8 af_9 af_10 H1.size) (cwV 0 hts gX7_deal_X7_drawn rfl rfl rfl ⟨rfl, zh_X7_drawn⟩ ⟨Nat.le_of_ble_eq_true rfl, Nat.le_of_ble_eq_true rfl⟩) (zz_pV (ci := 7) Zc 0 rfl rfl) rfl rfl hl6.1 rfl (lv_room (Nat.le_of_ble_eq_true rfl)) dX7_deal_34 ⟨Nat.le_of_ble_eq_true rfl, Nat.le_of_ble_eq_true rfl⟩) rfl rfl (fun r8 u6 H7 locs8 hw7 Z9 => ?_)
      clear Z4
      obtain ⟨f99, rfl⟩ : ∃ z, z = u6 := ⟨_, rfl⟩
      try dsimp only at hw7 Z9
      obtain ⟨⟨p10, p11, p12, p13, p14, p15, p16, p17, p18, p19, p20⟩, hx21⟩ := hw7
      subst r8
      have Z10 : zz_S D A s [(mo, .inr (7, [.ref ms, .ref mi, .ref ma, .int 0, .ref mts, .ref mtz, .ref mtn, .ref mh, .ref mhn, .ref mhw, .ref mhz, .ref mhr, .ref mcl, .ref mtp, .int 0, .int 0, .int 0, .int 0, .int 0, .int 0, .int 0, .int 0, .int 0, .int 0, .int 0, .ref mna, .ref mpi, .ref mca, .ref mwa, .int 0, .ref mrd])), (ms, .inl (kms, 3047, .inl f99))] [(kms, .int)] H7 locs8 := Z9
      clear Z9
      refine lv_bipush (v := 6) hx hb dX7_deal_37 (by decide) ?_
      refine lv_irem hx hb dX7_deal_39 (by decide) ?_
      refine lv_topi (fun y22 ey23 => ?_)
      refine lv_istore_n (lv' := [(3, .int y22), (2, .int 0), (0, .ref mo), (1, .int n)]) hx hb dX7_deal_40 rfl hl6 (by decide) rfl (fun ls11 hl12 => ?_)
      clear hl6
      refine lv_aload_n hx hb dX7_deal_41 rfl (lv_at hl12 2 rfl) ?_
      refine zz_ci (WC := [(mo, .inr (7, [.ref ms, .ref mi, .ref ma, .int 0, .ref mts, .ref mtz, .ref mtn, .ref mh, .ref mhn, .ref mhw, .ref mhz, .ref mhr, .ref mcl, .ref mtp, .int 0, .int 0, .int 0, .int 0, .int 0, .int 0, .int 0, .int 0, .int 0, .int 0, .int 0, .ref mna, .ref mpi, .ref mca, .ref mwa, .int 0, .ref mrd])), (ms, .inl (kms, 3047, .inl f99))]) (TC := [(kms, .int)]) (WR := []) (TR := []) (k := 0) (n := 0) Z10 [0, 1] [] [0] [] rfl rfl (by decide +kernel) (by decide +kernel) (by decide +kernel) rfl rfl (fun Zc => va_runV (As := []) (rest := []) X (c7_drawn l D mo ms mi ma mts mtz mtn mh mhn mhw mhz mhr mcl mtp mna mpi mca mwa mrd 0 0 0 0 0 0 0 0 0 0 0 0 0 kms f99 0 0 0 0 0 0 (zz_nz 1) 0 3 10 0 p10 p11 p12 p13 p14 p15 p16 p17 p18 p19 p20 H7.size) (cwV 0 hts gX7_deal_X7_drawn rfl rfl rfl ⟨rfl, zh_X7_drawn⟩ ⟨Nat.le_of_ble_eq_true rfl, Nat.le_of_ble_eq_true rfl⟩) (zz_pV (ci := 7) Zc 0 rfl rfl) rfl rfl hl12.1 rfl (lv_room (Nat.le_of_ble_eq_true rfl)) dX7_deal_42 ⟨Nat.le_of_ble_eq_true rfl, Nat.le_of_ble_eq_true rfl⟩) rfl rfl (fun r26 u24 H13 locs14 hw25 Z15 => ?_)
      clear Z10
      obtain ⟨f927, rfl⟩ : ∃ z, z = u24 := ⟨_, rfl⟩
      try dsimp only at hw25 Z15
      obtain ⟨⟨p28, p29, p30, p31, p32, p33, p34, p35, p36, p37, p38⟩, hx39⟩ := hw25
      subst r26
      have Z16 : zz_S D A s [(mo, .inr (7, [.ref ms, .ref mi, .ref ma, .int 0, .ref mts, .ref mtz, .ref mtn, .ref mh, .ref mhn, .ref mhw, .ref mhz, .ref mhr, .ref mcl, .ref mtp, .int 0, .int 0, .int 0, .int 0, .int 0, .int 0, .int 0, .int 0, .int 0, .int 0, .int 0, .ref mna, .ref mpi, .ref mca, .ref mwa, .int 0, .ref mrd])), (ms, .inl (kms, 3047, .inl f927))] [(kms, .int)] H13 locs14 := Z15
      clear Z15
      refine lv_bipush (v := 12) hx hb dX7_deal_45 (by decide) ?_
      refine lv_irem hx hb dX7_deal_47 (by decide) ?_
      refine lv_topi (fun y40 ey41 => ?_)
      refine lv_istore (lv' := [(4, .int y40), (3, .int y22), (2, .int 0), (0, .ref mo), (1, .int n)]) hx hb dX7_deal_48 hl12 (by decide) rfl (fun ls17 hl18 => ?_)
      clear hl12
      refine lv_aload_n hx hb dX7_deal_50 rfl (lv_at hl18 3 rfl) ?_
      refine lv_iload_n hx hb dX7_deal_51 rfl (lv_at hl18 1 rfl) ?_
      refine lv_iload hx hb dX7_deal_52 (lv_at hl18 0 rfl) ?_
      refine lv_aload_n hx hb dX7_deal_54 rfl (lv_at hl18 3 rfl) ?_
      refine zz_ci (WC := [(mo, .inr (7, [.ref ms, .ref mi, .ref ma, .int 0, .ref mts, .ref mtz, .ref mtn, .ref mh, .ref mhn, .ref mhw, .ref mhz, .ref mhr, .ref mcl, .ref mtp, .int 0, .int 0, .int 0, .int 0, .int 0, .int 0, .int 0, .int 0, .int 0, .int 0, .int 0, .ref mna, .ref mpi, .ref mca, .ref mwa, .int 0, .ref mrd])), (ms, .inl (kms, 3047, .inl f927))]) (TC := [(kms, .int)]) (WR := []) (TR := []) (k := 0) (n := 0) Z16 [0, 1] [] [0] [] rfl rfl (by decide +kernel) (by decide +kernel) (by decide +kernel) rfl rfl (fun Zc => va_runV (As := []) (rest := [.int y40, .int y22, .ref mo]) X (c7_drawn l D mo ms mi ma mts mtz mtn mh mhn mhw mhz mhr mcl mtp mna mpi mca mwa mrd 0 0 0 0 0 0 0 0 0 0 0 0 0 kms f927 0 0 0 0 0 0 (zz_nz (zz_nz 1)) 0 3 10 0 p28 p29 p30 p31 p32 p33 p34 p35 p36 p37 p38 H13.size) (cwV 0 hts gX7_deal_X7_drawn rfl rfl rfl ⟨rfl, zh_X7_drawn⟩ ⟨Nat.le_of_ble_eq_true rfl, Nat.le_of_ble_eq_true rfl⟩) (zz_pV (ci := 7) Zc 0 rfl rfl) rfl rfl hl18.1 rfl (lv_room (Nat.le_of_ble_eq_true rfl)) dX7_deal_55 ⟨Nat.le_of_ble_eq_true rfl, Nat.le_of_ble_eq_true rfl⟩) rfl rfl (fun r44 u42 H19 locs20 hw43 Z21 => ?_)
      clear Z16
      obtain ⟨f945, rfl⟩ : ∃ z, z = u42 := ⟨_, rfl⟩
      try dsimp only at hw43 Z21
      obtain ⟨⟨p46, p47, p48, p49, p50, p51, p52, p53, p54, p55, p56⟩, hx57⟩ := hw43
      subst r44
      have Z22 : zz_S D A s [(mo, .inr (7, [.ref ms, .ref mi, .ref ma, .int 0, .ref mts, .ref mtz, .ref mtn, .ref mh, .ref mhn, .ref mhw, .ref mhz, .ref mhr, .ref mcl, .ref mtp, .int 0, .int 0, .int 0, .int 0, .int 0, .int 0, .int 0, .int 0, .int 0, .int 0, .int 0, .ref mna, .ref mpi, .ref mca, .ref mwa, .int 0, .ref mrd])), (ms, .inl (kms, 3047, .inl f945))] [(kms, .int)] H19 locs20 := Z21
      clear Z21
      refine lv_bipush (v := 40) hx hb dX7_deal_58 (by decide) ?_
      refine lv_irem hx hb dX7_deal_60 (by decide) ?_
      refine zz_cv (WC := [(mo, .inr (7, [.ref ms, .ref mi, .ref ma, .int 0, .ref mts, .ref mtz, .ref mtn, .ref mh, .ref mhn, .ref mhw, .ref mhz, .ref mhr, .ref mcl, .ref mtp, .int 0, .int 0, .int 0, .int 0, .int 0, .int 0, .int 0, .int 0, .int 0, .int 0, .int 0, .ref mna, .ref mpi, .ref mca, .ref mwa, .int 0, .ref mrd])), (ms, .inl (kms, 3047, .inl f945))]) (TC := [(kms, .int)]) (WR := []) (TR := []) (k := 0) (n := 0) Z22 [0, 1] [] [0] [] rfl rfl (by decide +kernel) (by decide +kernel) (by decide +kernel) rfl rfl (fun Zc => va_runV (As := [.int y22, .int y40, .int ((zz_dr (zz_nz (zz_nz 1))) - (zz_dr (zz_nz (zz_nz 1))) / 40 * 40)]) (rest := []) X (c7_comes0 l D mo ms mi ma mts mtz mtn mh mhn mhw mhz mhr mcl mtp mna mpi mca mwa mrd 0 0 0 0 0 0 0 0 0 0 0 0 0 kms f945 0 0 0 0 0 (zz_nz (zz_nz (zz_nz 1))) 0 3 10 0 y22 y40 ((zz_dr (zz_nz (zz_nz 1))) - (zz_dr (zz_nz (zz_nz 1))) / 40 * 40) p46 p47 p48 p49 p50 p51 p52 p53 p54 p55 p56 H19.size) (cwV 3 hts gX7_deal_X7_comes rfl rfl rfl ⟨rfl, zh_X7_comes⟩ ⟨Nat.le_of_ble_eq_true rfl, Nat.le_of_ble_eq_true rfl⟩) (zz_pV (ci := 7) Zc 0 rfl rfl) rfl rfl hl18.1 rfl (lv_room (Nat.le_of_ble_eq_true rfl)) dX7_deal_61 ⟨Nat.le_of_ble_eq_true rfl, Nat.le_of_ble_eq_true rfl⟩) rfl rfl (fun u58 H23 locs24 hw59 Z25 => ?_)
      clear Z22
      obtain ⟨f961, rfl⟩ : ∃ z, z = u58 := ⟨_, rfl⟩
      try dsimp only at hw59 Z25
      obtain ⟨⟨p62, p63, p64, p65, p66, p67, p68, p69, p70, p71, p72⟩, hx73⟩ := hw59
      have Z26 : zz_S D A s [(mo, .inr (7, [.ref ms, .ref mi, .ref ma, .int 0, .ref mts, .ref mtz, .ref mtn, .ref mh, .ref mhn, .ref mhw, .ref mhz, .ref mhr, .ref mcl, .ref mtp, .int 0, .int 0, .int 0, .int 0, .int 0, .int 0, .int 0, .int 0, .int 0, .int 0, .int 0, .ref mna, .ref mpi, .ref mca, .ref mwa, .int 0, .ref mrd])), (ms, .inl (kms, 3047, .inl f961))] [(kms, .int)] H23 locs24 := Z25
      clear Z25
      refine lv_iinc (v := 1) (lv' := [(2, .int 1), (4, .int y40), (3, .int y22), (0, .ref mo), (1, .int n)]) hx hb dX7_deal_64 hl18 (k := 2) rfl (by decide) (by decide) rfl (fun ls27 hl28 => ?_)
      clear hl18
      refine lv_goto (tgt := 17) hx hb dX7_deal_67 (by decide) ?_
      refine lv_iload_n hx hb dX7_deal_17 rfl (lv_at hl28 0 rfl) ?_
      refine lv_iload_n hx hb dX7_deal_18 rfl (lv_at hl28 4 rfl) ?_
      refine lv_icmp_ge (tgt := 70) hx hb dX7_deal_19 (by decide) (fun b74 => ?_) (fun b74 => ?_)
      · refine lv_iload_n hx hb dX7_deal_70 rfl (lv_at hl28 0 rfl) ?_
        exact zz_iret X hr hlk Z26 () (zz_deal w4 (i := 1) (k := 0) b74 b5 (by decide)) [] [] (by decide +kernel) rfl rfl dX7_deal_71
      · refine lv_aload_n hx hb dX7_deal_22 rfl (lv_at hl28 3 rfl) ?_
        refine zz_get X Z26 0 rfl rfl (fun w h => List.mem_cons_of_mem _ (List.mem_append_right _ h)) 0 rfl (zz_m 3 rfl) rfl dX7_deal_23 ?_
        refine lv_iconst (v := 0) hx hb dX7_deal_26 (by decide) ?_
        refine zz_ild X Z26 1 0 rfl rfl (zz_in 0 3047 rfl) dX7_deal_27 ?_
        refine zz_v (v := 1) p62 ?_
        refine lv_bipush (v := 9) hx hb dX7_deal_28 (by decide) ?_
        refine lv_icmp_ge (tgt := 70) hx hb dX7_deal_30 (by decide) (fun h => absurd h (by decide)) (fun _ => ?_)
        refine lv_aload_n hx hb dX7_deal_33 rfl (lv_at hl28 3 rfl) ?_
        refine zz_ci (WC := [(mo, .inr (7, [.ref ms, .ref mi, .ref ma, .int 0, .ref mts, .ref mtz, .ref mtn, .ref mh, .ref mhn, .ref mhw, .ref mhz, .ref mhr, .ref mcl, .ref mtp, .int 0, .int 0, .int 0, .int 0, .int 0, .int 0, .int 0, .int 0, .int 0, .int 0, .int 0, .ref mna, .ref mpi, .ref mca, .ref mwa, .int 0, .ref mrd])), (ms, .inl (kms, 3047, .inl f961))]) (TC := [(kms, .int)]) (WR := []) (TR := []) (k := 0) (n := 0) Z26 [0, 1] [] [0] [] rfl rfl (by decide +kernel) (by decide +kernel) (by decide +kernel) rfl rfl (fun Zc => va_runV (As := []) (rest := []) X (c7_drawn l D mo ms mi ma mts mtz mtn mh mhn mhw mhz mhr mcl mtp mna mpi mca mwa mrd 0 0 0 0 0 0 0 0 0 0 0 0 0 kms f961 1 0 0 0 0 0 (zz_nz (zz_nz (zz_nz 1))) 0 3 10 0 p62 p63 p64 p65 p66 p67 p68 p69 p70 p71 p72 H23.size) (cwV 0 hts gX7_deal_X7_drawn rfl rfl rfl ⟨rfl, zh_X7_drawn⟩ ⟨Nat.le_of_ble_eq_true rfl, Nat.le_of_ble_eq_true rfl⟩) (zz_pV (ci := 7) Zc 0 rfl rfl) rfl rfl hl28.1 rfl (lv_room (Nat.le_of_ble_eq_true rfl)) dX7_deal_34 ⟨Nat.le_of_ble_eq_true rfl, Nat.le_of_ble_eq_true rfl⟩) rfl rfl (fun r77 u75 H29 locs30 hw76 Z31 => ?_)
        clear Z26
        obtain ⟨f978, rfl⟩ : ∃ z, z = u75 := ⟨_, rfl⟩
        try dsimp only at hw76 Z31
        obtain ⟨⟨p79, p80, p81, p82, p83, p84, p85, p86, p87, p88, p89⟩, hx90⟩ := hw76
        subst r77
        have Z32 : zz_S D A s [(mo, .inr (7, [.ref ms, .ref mi, .ref ma, .int 0, .ref mts, .ref mtz, .ref mtn, .ref mh, .ref mhn, .ref mhw, .ref mhz, .ref mhr, .ref mcl, .ref mtp, .int 0, .int 0, .int 0, .int 0, .int 0, .int 0, .int 0, .int 0, .int 0, .int 0, .int 0, .ref mna, .ref mpi, .ref mca, .ref mwa, .int 0, .ref mrd])), (ms, .inl (kms, 3047, .inl f978))] [(kms, .int)] H29 locs30 := Z31
        clear Z31
        refine lv_bipush (v := 6) hx hb dX7_deal_37 (by decide) ?_
        refine lv_irem hx hb dX7_deal_39 (by decide) ?_
        refine lv_topi (fun y91 ey92 => ?_)
        refine lv_istore_n (lv' := [(3, .int y91), (2, .int 1), (4, .int y40), (0, .ref mo), (1, .int n)]) hx hb dX7_deal_40 rfl hl28 (by decide) rfl (fun ls33 hl34 => ?_)
        clear hl28
        refine lv_aload_n hx hb dX7_deal_41 rfl (lv_at hl34 3 rfl) ?_
        refine zz_ci (WC := [(mo, .inr (7, [.ref ms, .ref mi, .ref ma, .int 0, .ref mts, .ref mtz, .ref mtn, .ref mh, .ref mhn, .ref mhw, .ref mhz, .ref mhr, .ref mcl, .ref mtp, .int 0, .int 0, .int 0, .int 0, .int 0, .int 0, .int 0, .int 0, .int 0, .int 0, .int 0, .ref mna, .ref mpi, .ref mca, .ref mwa, .int 0, .ref mrd])), (ms, .inl (kms, 3047, .inl f978))]) (TC := [(kms, .int)]) (WR := []) (TR := []) (k := 0) (n := 0) Z32 [0, 1] [] [0] [] rfl rfl (by decide +kernel) (by decide +kernel) (by decide +kernel) rfl rfl (fun Zc => va_runV (As := []) (rest := []) X (c7_drawn l D mo ms mi ma mts mtz mtn mh mhn mhw mhz mhr mcl mtp mna mpi mca mwa mrd 0 0 0 0 0 0 0 0 0 0 0 0 0 kms f978 1 0 0 0 0 0 (zz_nz (zz_nz (zz_nz (zz_nz 1)))) 0 3 10 0 p79 p80 p81 p82 p83 p84 p85 p86 p87 p88 p89 H29.size) (cwV 0 hts gX7_deal_X7_drawn rfl rfl rfl ⟨rfl, zh_X7_drawn⟩ ⟨Nat.le_of_ble_eq_true rfl, Nat.le_of_ble_eq_true rfl⟩) (zz_pV (ci := 7) Zc 0 rfl rfl) rfl rfl hl34.1 rfl (lv_room (Nat.le_of_ble_eq_true rfl)) dX7_deal_42 ⟨Nat.le_of_ble_eq_true rfl, Nat.le_of_ble_eq_true rfl⟩) rfl rfl (fun r95 u93 H35 locs36 hw94 Z37 => ?_)
        clear Z32
        obtain ⟨f996, rfl⟩ : ∃ z, z = u93 := ⟨_, rfl⟩
        try dsimp only at hw94 Z37
        obtain ⟨⟨p97, p98, p99, p100, p101, p102, p103, p104, p105, p106, p107⟩, hx108⟩ := hw94
        subst r95
        have Z38 : zz_S D A s [(mo, .inr (7, [.ref ms, .ref mi, .ref ma, .int 0, .ref mts, .ref mtz, .ref mtn, .ref mh, .ref mhn, .ref mhw, .ref mhz, .ref mhr, .ref mcl, .ref mtp, .int 0, .int 0, .int 0, .int 0, .int 0, .int 0, .int 0, .int 0, .int 0, .int 0, .int 0, .ref mna, .ref mpi, .ref mca, .ref mwa, .int 0, .ref mrd])), (ms, .inl (kms, 3047, .inl f996))] [(kms, .int)] H35 locs36 := Z37
        clear Z37
        refine lv_bipush (v := 12) hx hb dX7_deal_45 (by decide) ?_
        refine lv_irem hx hb dX7_deal_47 (by decide) ?_
        refine lv_topi (fun y109 ey110 => ?_)
        refine lv_istore (lv' := [(4, .int y109), (3, .int y91), (2, .int 1), (0, .ref mo), (1, .int n)]) hx hb dX7_deal_48 hl34 (by decide) rfl (fun ls39 hl40 => ?_)
        clear hl34
        refine lv_aload_n hx hb dX7_deal_50 rfl (lv_at hl40 3 rfl) ?_
        refine lv_iload_n hx hb dX7_deal_51 rfl (lv_at hl40 1 rfl) ?_
        refine lv_iload hx hb dX7_deal_52 (lv_at hl40 0 rfl) ?_
        refine lv_aload_n hx hb dX7_deal_54 rfl (lv_at hl40 3 rfl) ?_
        refine zz_ci (WC := [(mo, .inr (7, [.ref ms, .ref mi, .ref ma, .int 0, .ref mts, .ref mtz, .ref mtn, .ref mh, .ref mhn, .ref mhw, .ref mhz, .ref mhr, .ref mcl, .ref mtp, .int 0, .int 0, .int 0, .int 0, .int 0, .int 0, .int 0, .int 0, .int 0, .int 0, .int 0, .ref mna, .ref mpi, .ref mca, .ref mwa, .int 0, .ref mrd])), (ms, .inl (kms, 3047, .inl f996))]) (TC := [(kms, .int)]) (WR := []) (TR := []) (k := 0) (n := 0) Z38 [0, 1] [] [0] [] rfl rfl (by decide +kernel) (by decide +kernel) (by decide +kernel) rfl rfl (fun Zc => va_runV (As := []) (rest := [.int y109, .int y91, .ref mo]) X (c7_drawn l D mo ms mi ma mts mtz mtn mh mhn mhw mhz mhr mcl mtp mna mpi mca mwa mrd 0 0 0 0 0 0 0 0 0 0 0 0 0 kms f996 1 0 0 0 0 0 (zz_nz (zz_nz (zz_nz (zz_nz (zz_nz 1))))) 0 3 10 0 p97 p98 p99 p100 p101 p102 p103 p104 p105 p106 p107 H35.size) (cwV 0 hts gX7_deal_X7_drawn rfl rfl rfl ⟨rfl, zh_X7_drawn⟩ ⟨Nat.le_of_ble_eq_true rfl, Nat.le_of_ble_eq_true rfl⟩) (zz_pV (ci := 7) Zc 0 rfl rfl) rfl rfl hl40.1 rfl (lv_room (Nat.le_of_ble_eq_true rfl)) dX7_deal_55 ⟨Nat.le_of_ble_eq_true rfl, Nat.le_of_ble_eq_true rfl⟩) rfl rfl (fun r113 u111 H41 locs42 hw112 Z43 => ?_)
        clear Z38
        obtain ⟨f9114, rfl⟩ : ∃ z, z = u111 := ⟨_, rfl⟩
        try dsimp only at hw112 Z43
        obtain ⟨⟨p115, p116, p117, p118, p119, p120, p121, p122, p123, p124, p125⟩, hx126⟩ := hw112
        subst r113
        have Z44 : zz_S D A s [(mo, .inr (7, [.ref ms, .ref mi, .ref ma, .int 0, .ref mts, .ref mtz, .ref mtn, .ref mh, .ref mhn, .ref mhw, .ref mhz, .ref mhr, .ref mcl, .ref mtp, .int 0, .int 0, .int 0, .int 0, .int 0, .int 0, .int 0, .int 0, .int 0, .int 0, .int 0, .ref mna, .ref mpi, .ref mca, .ref mwa, .int 0, .ref mrd])), (ms, .inl (kms, 3047, .inl f9114))] [(kms, .int)] H41 locs42 := Z43
        clear Z43
        refine lv_bipush (v := 40) hx hb dX7_deal_58 (by decide) ?_
        refine lv_irem hx hb dX7_deal_60 (by decide) ?_
        refine zz_cv (WC := [(mo, .inr (7, [.ref ms, .ref mi, .ref ma, .int 0, .ref mts, .ref mtz, .ref mtn, .ref mh, .ref mhn, .ref mhw, .ref mhz, .ref mhr, .ref mcl, .ref mtp, .int 0, .int 0, .int 0, .int 0, .int 0, .int 0, .int 0, .int 0, .int 0, .int 0, .int 0, .ref mna, .ref mpi, .ref mca, .ref mwa, .int 0, .ref mrd])), (ms, .inl (kms, 3047, .inl f9114))]) (TC := [(kms, .int)]) (WR := []) (TR := []) (k := 0) (n := 0) Z44 [0, 1] [] [0] [] rfl rfl (by decide +kernel) (by decide +kernel) (by decide +kernel) rfl rfl (fun Zc => va_runV (As := [.int y91, .int y109, .int ((zz_dr (zz_nz (zz_nz (zz_nz (zz_nz (zz_nz 1)))))) - (zz_dr (zz_nz (zz_nz (zz_nz (zz_nz (zz_nz 1)))))) / 40 * 40)]) (rest := []) X (c7_comes1 l D mo ms mi ma mts mtz mtn mh mhn mhw mhz mhr mcl mtp mna mpi mca mwa mrd 0 0 0 0 0 0 0 0 0 0 0 0 0 kms f9114 0 0 0 0 0 (zz_nz (zz_nz (zz_nz (zz_nz (zz_nz (zz_nz 1)))))) 0 3 10 0 y91 y109 ((zz_dr (zz_nz (zz_nz (zz_nz (zz_nz (zz_nz 1)))))) - (zz_dr (zz_nz (zz_nz (zz_nz (zz_nz (zz_nz 1)))))) / 40 * 40) p115 p116 p117 p118 p119 p120 p121 p122 p123 p124 p125 H41.size) (cwV 3 hts gX7_deal_X7_comes rfl rfl rfl ⟨rfl, zh_X7_comes⟩ ⟨Nat.le_of_ble_eq_true rfl, Nat.le_of_ble_eq_true rfl⟩) (zz_pV (ci := 7) Zc 0 rfl rfl) rfl rfl hl40.1 rfl (lv_room (Nat.le_of_ble_eq_true rfl)) dX7_deal_61 ⟨Nat.le_of_ble_eq_true rfl, Nat.le_of_ble_eq_true rfl⟩) rfl rfl (fun u127 H45 locs46 hw128 Z47 => ?_)
        clear Z44
        obtain ⟨f9130, rfl⟩ : ∃ z, z = u127 := ⟨_, rfl⟩
        try dsimp only at hw128 Z47
        obtain ⟨⟨p131, p132, p133, p134, p135, p136, p137, p138, p139, p140, p141⟩, hx142⟩ := hw128
        have Z48 : zz_S D A s [(mo, .inr (7, [.ref ms, .ref mi, .ref ma, .int 0, .ref mts, .ref mtz, .ref mtn, .ref mh, .ref mhn, .ref mhw, .ref mhz, .ref mhr, .ref mcl, .ref mtp, .int 0, .int 0, .int 0, .int 0, .int 0, .int 0, .int 0, .int 0, .int 0, .int 0, .int 0, .ref mna, .ref mpi, .ref mca, .ref mwa, .int 0, .ref mrd])), (ms, .inl (kms, 3047, .inl f9130))] [(kms, .int)] H45 locs46 := Z47
        clear Z47
        refine lv_iinc (v := 2) (lv' := [(2, .int 2), (4, .int y109), (3, .int y91), (0, .ref mo), (1, .int n)]) hx hb dX7_deal_64 hl40 (k := 2) rfl (by decide) (by decide) rfl (fun ls49 hl50 => ?_)
        clear hl40
        refine lv_goto (tgt := 17) hx hb dX7_deal_67 (by decide) ?_
        refine lv_iload_n hx hb dX7_deal_17 rfl (lv_at hl50 0 rfl) ?_
        refine lv_iload_n hx hb dX7_deal_18 rfl (lv_at hl50 4 rfl) ?_
        refine lv_icmp_ge (tgt := 70) hx hb dX7_deal_19 (by decide) (fun b143 => ?_) (fun b143 => ?_)
        · refine lv_iload_n hx hb dX7_deal_70 rfl (lv_at hl50 0 rfl) ?_
          exact zz_iret X hr hlk Z48 () (zz_deal w4 (i := 2) (k := 1) b143 b74 (by decide)) [] [] (by decide +kernel) rfl rfl dX7_deal_71
        · refine lv_aload_n hx hb dX7_deal_22 rfl (lv_at hl50 3 rfl) ?_
          refine zz_get X Z48 0 rfl rfl (fun w h => List.mem_cons_of_mem _ (List.mem_append_right _ h)) 0 rfl (zz_m 3 rfl) rfl dX7_deal_23 ?_
          refine lv_iconst (v := 0) hx hb dX7_deal_26 (by decide) ?_
          refine zz_ild X Z48 1 0 rfl rfl (zz_in 0 3047 rfl) dX7_deal_27 ?_
          refine zz_v (v := 2) p131 ?_
          refine lv_bipush (v := 9) hx hb dX7_deal_28 (by decide) ?_
          refine lv_icmp_ge (tgt := 70) hx hb dX7_deal_30 (by decide) (fun h => absurd h (by decide)) (fun _ => ?_)
          refine lv_aload_n hx hb dX7_deal_33 rfl (lv_at hl50 3 rfl) ?_
          refine zz_ci (WC := [(mo, .inr (7, [.ref ms, .ref mi, .ref ma, .int 0, .ref mts, .ref mtz, .ref mtn, .ref mh, .ref mhn, .ref mhw, .ref mhz, .ref mhr, .ref mcl, .ref mtp, .int 0, .int 0, .int 0, .int 0, .int 0, .int 0, .int 0, .int 0, .int 0, .int 0, .int 0, .ref mna, .ref mpi, .ref mca, .ref mwa, .int 0, .ref mrd])), (ms, .inl (kms, 3047, .inl f9130))]) (TC := [(kms, .int)]) (WR := []) (TR := []) (k := 0) (n := 0) Z48 [0, 1] [] [0] [] rfl rfl (by decide +kernel) (by decide +kernel) (by decide +kernel) rfl rfl (fun Zc => va_runV (As := []) (rest := []) X (c7_drawn l D mo ms mi ma mts mtz mtn mh mhn mhw mhz mhr mcl mtp mna mpi mca mwa mrd 0 0 0 0 0 0 0 0 0 0 0 0 0 kms f9130 2 0 0 0 0 0 (zz_nz (zz_nz (zz_nz (zz_nz (zz_nz (zz_nz 1)))))) 0 3 10 0 p131 p132 p133 p134 p135 p136 p137 p138 p139 p140 p141 H45.size) (cwV 0 hts gX7_deal_X7_drawn rfl rfl rfl ⟨rfl, zh_X7_drawn⟩ ⟨Nat.le_of_ble_eq_true rfl, Nat.le_of_ble_eq_true rfl⟩) (zz_pV (ci := 7) Zc 0 rfl rfl) rfl rfl hl50.1 rfl (lv_room (Nat.le_of_ble_eq_true rfl)) dX7_deal_34 ⟨Nat.le_of_ble_eq_true rfl, Nat.le_of_ble_eq_true rfl⟩) rfl rfl (fun r146 u144 H51 locs52 hw145 Z53 => ?_)
          clear Z48
          obtain ⟨f9147, rfl⟩ : ∃ z, z = u144 := ⟨_, rfl⟩
          try dsimp only at hw145 Z53
          obtain ⟨⟨p148, p149, p150, p151, p152, p153, p154, p155, p156, p157, p158⟩, hx159⟩ := hw145
          subst r146
          have Z54 : zz_S D A s [(mo, .inr (7, [.ref ms, .ref mi, .ref ma, .int 0, .ref mts, .ref mtz, .ref mtn, .ref mh, .ref mhn, .ref mhw, .ref mhz, .ref mhr, .ref mcl, .ref mtp, .int 0, .int 0, .int 0, .int 0, .int 0, .int 0, .int 0, .int 0, .int 0, .int 0, .int 0, .ref mna, .ref mpi, .ref mca, .ref mwa, .int 0, .ref mrd])), (ms, .inl (kms, 3047, .inl f9147))] [(kms, .int)] H51 locs52 := Z53
          clear Z53
          refine lv_bipush (v := 6) hx hb dX7_deal_37 (by decide) ?_
          refine lv_irem hx hb dX7_deal_39 (by decide) ?_
          refine lv_topi (fun y160 ey161 => ?_)
          refine lv_istore_n (lv' := [(3, .int y160), (2, .int 2), (4, .int y109), (0, .ref mo), (1, .int n)]) hx hb dX7_deal_40 rfl hl50 (by decide) rfl (fun ls55 hl56 => ?_)
          clear hl50
          refine lv_aload_n hx hb dX7_deal_41 rfl (lv_at hl56 3 rfl) ?_
          refine zz_ci (WC := [(mo, .inr (7, [.ref ms, .ref mi, .ref ma, .int 0, .ref mts, .ref mtz, .ref mtn, .ref mh, .ref mhn, .ref mhw, .ref mhz, .ref mhr, .ref mcl, .ref mtp, .int 0, .int 0, .int 0, .int 0, .int 0, .int 0, .int 0, .int 0, .int 0, .int 0, .int 0, .ref mna, .ref mpi, .ref mca, .ref mwa, .int 0, .ref mrd])), (ms, .inl (kms, 3047, .inl f9147))]) (TC := [(kms, .int)]) (WR := []) (TR := []) (k := 0) (n := 0) Z54 [0, 1] [] [0] [] rfl rfl (by decide +kernel) (by decide +kernel) (by decide +kernel) rfl rfl (fun Zc => va_runV (As := []) (rest := []) X (c7_drawn l D mo ms mi ma mts mtz mtn mh mhn mhw mhz mhr mcl mtp mna mpi mca mwa mrd 0 0 0 0 0 0 0 0 0 0 0 0 0 kms f9147 2 0 0 0 0 0 (zz_nz (zz_nz (zz_nz (zz_nz (zz_nz (zz_nz (zz_nz 1))))))) 0 3 10 0 p148 p149 p150 p151 p152 p153 p154 p155 p156 p157 p158 H51.size) (cwV 0 hts gX7_deal_X7_drawn rfl rfl rfl ⟨rfl, zh_X7_drawn⟩ ⟨Nat.le_of_ble_eq_true rfl, Nat.le_of_ble_eq_true rfl⟩) (zz_pV (ci := 7) Zc 0 rfl rfl) rfl rfl hl56.1 rfl (lv_room (Nat.le_of_ble_eq_true rfl)) dX7_deal_42 ⟨Nat.le_of_ble_eq_true rfl, Nat.le_of_ble_eq_true rfl⟩) rfl rfl (fun r164 u162 H57 locs58 hw163 Z59 => ?_)
          clear Z54
          obtain ⟨f9165, rfl⟩ : ∃ z, z = u162 := ⟨_, rfl⟩
          try dsimp only at hw163 Z59
          obtain ⟨⟨p166, p167, p168, p169, p170, p171, p172, p173, p174, p175, p176⟩, hx177⟩ := hw163
          subst r164
          have Z60 : zz_S D A s [(mo, .inr (7, [.ref ms, .ref mi, .ref ma, .int 0, .ref mts, .ref mtz, .ref mtn, .ref mh, .ref mhn, .ref mhw, .ref mhz, .ref mhr, .ref mcl, .ref mtp, .int 0, .int 0, .int 0, .int 0, .int 0, .int 0, .int 0, .int 0, .int 0, .int 0, .int 0, .ref mna, .ref mpi, .ref mca, .ref mwa, .int 0, .ref mrd])), (ms, .inl (kms, 3047, .inl f9165))] [(kms, .int)] H57 locs58 := Z59
          clear Z59
          refine lv_bipush (v := 12) hx hb dX7_deal_45 (by decide) ?_
          refine lv_irem hx hb dX7_deal_47 (by decide) ?_
          refine lv_topi (fun y178 ey179 => ?_)
          refine lv_istore (lv' := [(4, .int y178), (3, .int y160), (2, .int 2), (0, .ref mo), (1, .int n)]) hx hb dX7_deal_48 hl56 (by decide) rfl (fun ls61 hl62 => ?_)
          clear hl56
          refine lv_aload_n hx hb dX7_deal_50 rfl (lv_at hl62 3 rfl) ?_
          refine lv_iload_n hx hb dX7_deal_51 rfl (lv_at hl62 1 rfl) ?_
          refine lv_iload hx hb dX7_deal_52 (lv_at hl62 0 rfl) ?_
          refine lv_aload_n hx hb dX7_deal_54 rfl (lv_at hl62 3 rfl) ?_
          refine zz_ci (WC := [(mo, .inr (7, [.ref ms, .ref mi, .ref ma, .int 0, .ref mts, .ref mtz, .ref mtn, .ref mh, .ref mhn, .ref mhw, .ref mhz, .ref mhr, .ref mcl, .ref mtp, .int 0, .int 0, .int 0, .int 0, .int 0, .int 0, .int 0, .int 0, .int 0, .int 0, .int 0, .ref mna, .ref mpi, .ref mca, .ref mwa, .int 0, .ref mrd])), (ms, .inl (kms, 3047, .inl f9165))]) (TC := [(kms, .int)]) (WR := []) (TR := []) (k := 0) (n := 0) Z60 [0, 1] [] [0] [] rfl rfl (by decide +kernel) (by decide +kernel) (by decide +kernel) rfl rfl (fun Zc => va_runV (As := []) (rest := [.int y178, .int y160, .ref mo]) X (c7_drawn l D mo ms mi ma mts mtz mtn mh mhn mhw mhz mhr mcl mtp mna mpi mca mwa mrd 0 0 0 0 0 0 0 0 0 0 0 0 0 kms f9165 2 0 0 0 0 0 (zz_nz (zz_nz (zz_nz (zz_nz (zz_nz (zz_nz (zz_nz (zz_nz 1)))))))) 0 3 10 0 p166 p167 p168 p169 p170 p171 p172 p173 p174 p175 p176 H57.size) (cwV 0 hts gX7_deal_X7_drawn rfl rfl rfl ⟨rfl, zh_X7_drawn⟩ ⟨Nat.le_of_ble_eq_true rfl, Nat.le_of_ble_eq_true rfl⟩) (zz_pV (ci := 7) Zc 0 rfl rfl) rfl rfl hl62.1 rfl (lv_room (Nat.le_of_ble_eq_true rfl)) dX7_deal_55 ⟨Nat.le_of_ble_eq_true rfl, Nat.le_of_ble_eq_true rfl⟩) rfl rfl (fun r182 u180 H63 locs64 hw181 Z65 => ?_)
          clear Z60
          obtain ⟨f9183, rfl⟩ : ∃ z, z = u180 := ⟨_, rfl⟩
          try dsimp only at hw181 Z65
          obtain ⟨⟨p184, p185, p186, p187, p188, p189, p190, p191, p192, p193, p194⟩, hx195⟩ := hw181
          subst r182
          have Z66 : zz_S D A s [(mo, .inr (7, [.ref ms, .ref mi, .ref ma, .int 0, .ref mts, .ref mtz, .ref mtn, .ref mh, .ref mhn, .ref mhw, .ref mhz, .ref mhr, .ref mcl, .ref mtp, .int 0, .int 0, .int 0, .int 0, .int 0, .int 0, .int 0, .int 0, .int 0, .int 0, .int 0, .ref mna, .ref mpi, .ref mca, .ref mwa, .int 0, .ref mrd])), (ms, .inl (kms, 3047, .inl f9183))] [(kms, .int)] H63 locs64 := Z65
          clear Z65
          refine lv_bipush (v := 40) hx hb dX7_deal_58 (by decide) ?_
          refine lv_irem hx hb dX7_deal_60 (by decide) ?_
          refine zz_cv (WC := [(mo, .inr (7, [.ref ms, .ref mi, .ref ma, .int 0, .ref mts, .ref mtz, .ref mtn, .ref mh, .ref mhn, .ref mhw, .ref mhz, .ref mhr, .ref mcl, .ref mtp, .int 0, .int 0, .int 0, .int 0, .int 0, .int 0, .int 0, .int 0, .int 0, .int 0, .int 0, .ref mna, .ref mpi, .ref mca, .ref mwa, .int 0, .ref mrd])), (ms, .inl (kms, 3047, .inl f9183))]) (TC := [(kms, .int)]) (WR := []) (TR := []) (k := 0) (n := 0) Z66 [0, 1] [] [0] [] rfl rfl (by decide +kernel) (by decide +kernel) (by decide +kernel) rfl rfl (fun Zc => va_runV (As := [.int y160, .int y178, .int ((zz_dr (zz_nz (zz_nz (zz_nz (zz_nz (zz_nz (zz_nz (zz_nz (zz_nz 1))))))))) - (zz_dr (zz_nz (zz_nz (zz_nz (zz_nz (zz_nz (zz_nz (zz_nz (zz_nz 1))))))))) / 40 * 40)]) (rest := []) X (c7_comes2 l D mo ms mi ma mts mtz mtn mh mhn mhw mhz mhr mcl mtp mna mpi mca mwa mrd 0 0 0 0 0 0 0 0 0 0 0 0 0 kms f9183 0 0 0 0 0 (zz_nz (zz_nz (zz_nz (zz_nz (zz_nz (zz_nz (zz_nz (zz_nz (zz_nz 1))))))))) 0 3 10 0 y160 y178 ((zz_dr (zz_nz (zz_nz (zz_nz (zz_nz (zz_nz (zz_nz (zz_nz (zz_nz 1))))))))) - (zz_dr (zz_nz (zz_nz (zz_nz (zz_nz (zz_nz (zz_nz (zz_nz (zz_nz 1))))))))) / 40 * 40) p184 p185 p186 p187 p188 p189 p190 p191 p192 p193 p194 H63.size) (cwV 3 hts gX7_deal_X7_comes rfl rfl rfl ⟨rfl, zh_X7_comes⟩ ⟨Nat.le_of_ble_eq_true rfl, Nat.le_of_ble_eq_true rfl⟩) (zz_pV (ci := 7) Zc 0 rfl rfl) rfl rfl hl62.1 rfl (lv_room (Nat.le_of_ble_eq_true rfl)) dX7_deal_61 ⟨Nat.le_of_ble_eq_true rfl, Nat.le_of_ble_eq_true rfl⟩) rfl rfl (fun u196 H67 locs68 hw197 Z69 => ?_)
          clear Z66
          obtain ⟨f9199, rfl⟩ : ∃ z, z = u196 := ⟨_, rfl⟩
          try dsimp only at hw197 Z69
          obtain ⟨⟨p200, p201, p202, p203, p204, p205, p206, p207, p208, p209, p210⟩, hx211⟩ := hw197
          have Z70 : zz_S D A s [(mo, .inr (7, [.ref ms, .ref mi, .ref ma, .int 0, .ref mts, .ref mtz, .ref mtn, .ref mh, .ref mhn, .ref mhw, .ref mhz, .ref mhr, .ref mcl, .ref mtp, .int 0, .int 0, .int 0, .int 0, .int 0, .int 0, .int 0, .int 0, .int 0, .int 0, .int 0, .ref mna, .ref mpi, .ref mca, .ref mwa, .int 0, .ref mrd])), (ms, .inl (kms, 3047, .inl f9199))] [(kms, .int)] H67 locs68 := Z69
          clear Z69
          refine lv_iinc (v := 3) (lv' := [(2, .int 3), (4, .int y178), (3, .int y160), (0, .ref mo), (1, .int n)]) hx hb dX7_deal_64 hl62 (k := 2) rfl (by decide) (by decide) rfl (fun ls71 hl72 => ?_)
          clear hl62
          refine lv_goto (tgt := 17) hx hb dX7_deal_67 (by decide) ?_
          refine lv_iload_n hx hb dX7_deal_17 rfl (lv_at hl72 0 rfl) ?_
          refine lv_iload_n hx hb dX7_deal_18 rfl (lv_at hl72 4 rfl) ?_
          refine lv_icmp_ge (tgt := 70) hx hb dX7_deal_19 (by decide) (fun b212 => ?_) (fun b212 => ?_)
          · refine lv_iload_n hx hb dX7_deal_70 rfl (lv_at hl72 0 rfl) ?_
            exact zz_iret X hr hlk Z70 () (zz_deal w4 (i := 3) (k := 2) b212 b143 (by decide)) [] [] (by decide +kernel) rfl rfl dX7_deal_71
          · refine lv_aload_n hx hb dX7_deal_22 rfl (lv_at hl72 3 rfl) ?_
            refine zz_get X Z70 0 rfl rfl (fun w h => List.mem_cons_of_mem _ (List.mem_append_right _ h)) 0 rfl (zz_m 3 rfl) rfl dX7_deal_23 ?_
            refine lv_iconst (v := 0) hx hb dX7_deal_26 (by decide) ?_
            refine zz_ild X Z70 1 0 rfl rfl (zz_in 0 3047 rfl) dX7_deal_27 ?_
            refine zz_v (v := 3) p200 ?_
            refine lv_bipush (v := 9) hx hb dX7_deal_28 (by decide) ?_
            refine lv_icmp_ge (tgt := 70) hx hb dX7_deal_30 (by decide) (fun h => absurd h (by decide)) (fun _ => ?_)
            refine lv_aload_n hx hb dX7_deal_33 rfl (lv_at hl72 3 rfl) ?_
            refine zz_ci (WC := [(mo, .inr (7, [.ref ms, .ref mi, .ref ma, .int 0, .ref mts, .ref mtz, .ref mtn, .ref mh, .ref mhn, .ref mhw, .ref mhz, .ref mhr, .ref mcl, .ref mtp, .int 0, .int 0, .int 0, .int 0, .int 0, .int 0, .int 0, .int 0, .int 0, .int 0, .int 0, .ref mna, .ref mpi, .ref mca, .ref mwa, .int 0, .ref mrd])), (ms, .inl (kms, 3047, .inl f9199))]) (TC := [(kms, .int)]) (WR := []) (TR := []) (k := 0) (n := 0) Z70 [0, 1] [] [0] [] rfl rfl (by decide +kernel) (by decide +kernel) (by decide +kernel) rfl rfl (fun Zc => va_runV (As := []) (rest := []) X (c7_drawn l D mo ms mi ma mts mtz mtn mh mhn mhw mhz mhr mcl mtp mna mpi mca mwa mrd 0 0 0 0 0 0 0 0 0 0 0 0 0 kms f9199 3 0 0 0 0 0 (zz_nz (zz_nz (zz_nz (zz_nz (zz_nz (zz_nz (zz_nz (zz_nz (zz_nz 1))))))))) 0 3 10 0 p200 p201 p202 p203 p204 p205 p206 p207 p208 p209 p210 H67.size) (cwV 0 hts gX7_deal_X7_drawn rfl rfl rfl ⟨rfl, zh_X7_drawn⟩ ⟨Nat.le_of_ble_eq_true rfl, Nat.le_of_ble_eq_true rfl⟩) (zz_pV (ci := 7) Zc 0 rfl rfl) rfl rfl hl72.1 rfl (lv_room (Nat.le_of_ble_eq_true rfl)) dX7_deal_34 ⟨Nat.le_of_ble_eq_true rfl, Nat.le_of_ble_eq_true rfl⟩) rfl rfl (fun r215 u213 H73 locs74 hw214 Z75 => ?_)
            clear Z70
            obtain ⟨f9216, rfl⟩ : ∃ z, z = u213 := ⟨_, rfl⟩
            try dsimp only at hw214 Z75
            obtain ⟨⟨p217, p218, p219, p220, p221, p222, p223, p224, p225, p226, p227⟩, hx228⟩ := hw214
            subst r215
            have Z76 : zz_S D A s [(mo, .inr (7, [.ref ms, .ref mi, .ref ma, .int 0, .ref mts, .ref mtz, .ref mtn, .ref mh, .ref mhn, .ref mhw, .ref mhz, .ref mhr, .ref mcl, .ref mtp, .int 0, .int 0, .int 0, .int 0, .int 0, .int 0, .int 0, .int 0, .int 0, .int 0, .int 0, .ref mna, .ref mpi, .ref mca, .ref mwa, .int 0, .ref mrd])), (ms, .inl (kms, 3047, .inl f9216))] [(kms, .int)] H73 locs74 := Z75
            clear Z75
            refine lv_bipush (v := 6) hx hb dX7_deal_37 (by decide) ?_
            refine lv_irem hx hb dX7_deal_39 (by decide) ?_
            refine lv_topi (fun y229 ey230 => ?_)
            refine lv_istore_n (lv' := [(3, .int y229), (2, .int 3), (4, .int y178), (0, .ref mo), (1, .int n)]) hx hb dX7_deal_40 rfl hl72 (by decide) rfl (fun ls77 hl78 => ?_)
            clear hl72
            refine lv_aload_n hx hb dX7_deal_41 rfl (lv_at hl78 3 rfl) ?_
            refine zz_ci (WC := [(mo, .inr (7, [.ref ms, .ref mi, .ref ma, .int 0, .ref mts, .ref mtz, .ref mtn, .ref mh, .ref mhn, .ref mhw, .ref mhz, .ref mhr, .ref mcl, .ref mtp, .int 0, .int 0, .int 0, .int 0, .int 0, .int 0, .int 0, .int 0, .int 0, .int 0, .int 0, .ref mna, .ref mpi, .ref mca, .ref mwa, .int 0, .ref mrd])), (ms, .inl (kms, 3047, .inl f9216))]) (TC := [(kms, .int)]) (WR := []) (TR := []) (k := 0) (n := 0) Z76 [0, 1] [] [0] [] rfl rfl (by decide +kernel) (by decide +kernel) (by decide +kernel) rfl rfl (fun Zc => va_runV (As := []) (rest := []) X (c7_drawn l D mo ms mi ma mts mtz mtn mh mhn mhw mhz mhr mcl mtp mna mpi mca mwa mrd 0 0 0 0 0 0 0 0 0 0 0 0 0 kms f9216 3 0 0 0 0 0 (zz_nz (zz_nz (zz_nz (zz_nz (zz_nz (zz_nz (zz_nz (zz_nz (zz_nz (zz_nz 1)))))))))) 0 3 10 0 p217 p218 p219 p220 p221 p222 p223 p224 p225 p226 p227 H73.size) (cwV 0 hts gX7_deal_X7_drawn rfl rfl rfl ⟨rfl, zh_X7_drawn⟩ ⟨Nat.le_of_ble_eq_true rfl, Nat.le_of_ble_eq_true rfl⟩) (zz_pV (ci := 7) Zc 0 rfl rfl) rfl rfl hl78.1 rfl (lv_room (Nat.le_of_ble_eq_true rfl)) dX7_deal_42 ⟨Nat.le_of_ble_eq_true rfl, Nat.le_of_ble_eq_true rfl⟩) rfl rfl (fun r233 u231 H79 locs80 hw232 Z81 => ?_)
            clear Z76
            obtain ⟨f9234, rfl⟩ : ∃ z, z = u231 := ⟨_, rfl⟩
            try dsimp only at hw232 Z81
            obtain ⟨⟨p235, p236, p237, p238, p239, p240, p241, p242, p243, p244, p245⟩, hx246⟩ := hw232
            subst r233
            have Z82 : zz_S D A s [(mo, .inr (7, [.ref ms, .ref mi, .ref ma, .int 0, .ref mts, .ref mtz, .ref mtn, .ref mh, .ref mhn, .ref mhw, .ref mhz, .ref mhr, .ref mcl, .ref mtp, .int 0, .int 0, .int 0, .int 0, .int 0, .int 0, .int 0, .int 0, .int 0, .int 0, .int 0, .ref mna, .ref mpi, .ref mca, .ref mwa, .int 0, .ref mrd])), (ms, .inl (kms, 3047, .inl f9234))] [(kms, .int)] H79 locs80 := Z81
            clear Z81
            refine lv_bipush (v := 12) hx hb dX7_deal_45 (by decide) ?_
            refine lv_irem hx hb dX7_deal_47 (by decide) ?_
            refine lv_topi (fun y247 ey248 => ?_)
            refine lv_istore (lv' := [(4, .int y247), (3, .int y229), (2, .int 3), (0, .ref mo), (1, .int n)]) hx hb dX7_deal_48 hl78 (by decide) rfl (fun ls83 hl84 => ?_)
            clear hl78
            refine lv_aload_n hx hb dX7_deal_50 rfl (lv_at hl84 3 rfl) ?_
            refine lv_iload_n hx hb dX7_deal_51 rfl (lv_at hl84 1 rfl) ?_
            refine lv_iload hx hb dX7_deal_52 (lv_at hl84 0 rfl) ?_
            refine lv_aload_n hx hb dX7_deal_54 rfl (lv_at hl84 3 rfl) ?_
            refine zz_ci (WC := [(mo, .inr (7, [.ref ms, .ref mi, .ref ma, .int 0, .ref mts, .ref mtz, .ref mtn, .ref mh, .ref mhn, .ref mhw, .ref mhz, .ref mhr, .ref mcl, .ref mtp, .int 0, .int 0, .int 0, .int 0, .int 0, .int 0, .int 0, .int 0, .int 0, .int 0, .int 0, .ref mna, .ref mpi, .ref mca, .ref mwa, .int 0, .ref mrd])), (ms, .inl (kms, 3047, .inl f9234))]) (TC := [(kms, .int)]) (WR := []) (TR := []) (k := 0) (n := 0) Z82 [0, 1] [] [0] [] rfl rfl (by decide +kernel) (by decide +kernel) (by decide +kernel) rfl rfl (fun Zc => va_runV (As := []) (rest := [.int y247, .int y229, .ref mo]) X (c7_drawn l D mo ms mi ma mts mtz mtn mh mhn mhw mhz mhr mcl mtp mna mpi mca mwa mrd 0 0 0 0 0 0 0 0 0 0 0 0 0 kms f9234 3 0 0 0 0 0 (zz_nz (zz_nz (zz_nz (zz_nz (zz_nz (zz_nz (zz_nz (zz_nz (zz_nz (zz_nz (zz_nz 1))))))))))) 0 3 10 0 p235 p236 p237 p238 p239 p240 p241 p242 p243 p244 p245 H79.size) (cwV 0 hts gX7_deal_X7_drawn rfl rfl rfl ⟨rfl, zh_X7_drawn⟩ ⟨Nat.le_of_ble_eq_true rfl, Nat.le_of_ble_eq_true rfl⟩) (zz_pV (ci := 7) Zc 0 rfl rfl) rfl rfl hl84.1 rfl (lv_room (Nat.le_of_ble_eq_true rfl)) dX7_deal_55 ⟨Nat.le_of_ble_eq_true rfl, Nat.le_of_ble_eq_true rfl⟩) rfl rfl (fun r251 u249 H85 locs86 hw250 Z87 => ?_)
            clear Z82
            obtain ⟨f9252, rfl⟩ : ∃ z, z = u249 := ⟨_, rfl⟩
            try dsimp only at hw250 Z87
            obtain ⟨⟨p253, p254, p255, p256, p257, p258, p259, p260, p261, p262, p263⟩, hx264⟩ := hw250
            subst r251
            have Z88 : zz_S D A s [(mo, .inr (7, [.ref ms, .ref mi, .ref ma, .int 0, .ref mts, .ref mtz, .ref mtn, .ref mh, .ref mhn, .ref mhw, .ref mhz, .ref mhr, .ref mcl, .ref mtp, .int 0, .int 0, .int 0, .int 0, .int 0, .int 0, .int 0, .int 0, .int 0, .int 0, .int 0, .ref mna, .ref mpi, .ref mca, .ref mwa, .int 0, .ref mrd])), (ms, .inl (kms, 3047, .inl f9252))] [(kms, .int)] H85 locs86 := Z87
            clear Z87
            refine lv_bipush (v := 40) hx hb dX7_deal_58 (by decide) ?_
            refine lv_irem hx hb dX7_deal_60 (by decide) ?_
            refine zz_cv (WC := [(mo, .inr (7, [.ref ms, .ref mi, .ref ma, .int 0, .ref mts, .ref mtz, .ref mtn, .ref mh, .ref mhn, .ref mhw, .ref mhz, .ref mhr, .ref mcl, .ref mtp, .int 0, .int 0, .int 0, .int 0, .int 0, .int 0, .int 0, .int 0, .int 0, .int 0, .int 0, .ref mna, .ref mpi, .ref mca, .ref mwa, .int 0, .ref mrd])), (ms, .inl (kms, 3047, .inl f9252))]) (TC := [(kms, .int)]) (WR := []) (TR := []) (k := 0) (n := 0) Z88 [0, 1] [] [0] [] rfl rfl (by decide +kernel) (by decide +kernel) (by decide +kernel) rfl rfl (fun Zc => va_runV (As := [.int y229, .int y247, .int ((zz_dr (zz_nz (zz_nz (zz_nz (zz_nz (zz_nz (zz_nz (zz_nz (zz_nz (zz_nz (zz_nz (zz_nz 1)))))))))))) - (zz_dr (zz_nz (zz_nz (zz_nz (zz_nz (zz_nz (zz_nz (zz_nz (zz_nz (zz_nz (zz_nz (zz_nz 1)))))))))))) / 40 * 40)]) (rest := []) X (c7_comes3 l D mo ms mi ma mts mtz mtn mh mhn mhw mhz mhr mcl mtp mna mpi mca mwa mrd 0 0 0 0 0 0 0 0 0 0 0 0 0 kms f9252 0 0 0 0 0 (zz_nz (zz_nz (zz_nz (zz_nz (zz_nz (zz_nz (zz_nz (zz_nz (zz_nz (zz_nz (zz_nz (zz_nz 1)))))))))))) 0 3 10 0 y229 y247 ((zz_dr (zz_nz (zz_nz (zz_nz (zz_nz (zz_nz (zz_nz (zz_nz (zz_nz (zz_nz (zz_nz (zz_nz 1)))))))))))) - (zz_dr (zz_nz (zz_nz (zz_nz (zz_nz (zz_nz (zz_nz (zz_nz (zz_nz (zz_nz (zz_nz (zz_nz 1)))))))))))) / 40 * 40) p253 p254 p255 p256 p257 p258 p259 p260 p261 p262 p263 H85.size) (cwV 3 hts gX7_deal_X7_comes rfl rfl rfl ⟨rfl, zh_X7_comes⟩ ⟨Nat.le_of_ble_eq_true rfl, Nat.le_of_ble_eq_true rfl⟩) (zz_pV (ci := 7) Zc 0 rfl rfl) rfl rfl hl84.1 rfl (lv_room (Nat.le_of_ble_eq_true rfl)) dX7_deal_61 ⟨Nat.le_of_ble_eq_true rfl, Nat.le_of_ble_eq_true rfl⟩) rfl rfl (fun u265 H89 locs90 hw266 Z91 => ?_)
            clear Z88
            obtain ⟨f9268, rfl⟩ : ∃ z, z = u265 := ⟨_, rfl⟩
            try dsimp only at hw266 Z91
            obtain ⟨⟨p269, p270, p271, p272, p273, p274, p275, p276, p277, p278, p279⟩, hx280⟩ := hw266
            have Z92 : zz_S D A s [(mo, .inr (7, [.ref ms, .ref mi, .ref ma, .int 0, .ref mts, .ref mtz, .ref mtn, .ref mh, .ref mhn, .ref mhw, .ref mhz, .ref mhr, .ref mcl, .ref mtp, .int 0, .int 0, .int 0, .int 0, .int 0, .int 0, .int 0, .int 0, .int 0, .int 0, .int 0, .ref mna, .ref mpi, .ref mca, .ref mwa, .int 0, .ref mrd])), (ms, .inl (kms, 3047, .inl f9268))] [(kms, .int)] H89 locs90 := Z91
            clear Z91
            refine lv_iinc (v := 4) (lv' := [(2, .int 4), (4, .int y247), (3, .int y229), (0, .ref mo), (1, .int n)]) hx hb dX7_deal_64 hl84 (k := 2) rfl (by decide) (by decide) rfl (fun ls93 hl94 => ?_)
            clear hl84
            refine lv_goto (tgt := 17) hx hb dX7_deal_67 (by decide) ?_
            refine lv_iload_n hx hb dX7_deal_17 rfl (lv_at hl94 0 rfl) ?_
            refine lv_iload_n hx hb dX7_deal_18 rfl (lv_at hl94 4 rfl) ?_
            refine lv_icmp_ge (tgt := 70) hx hb dX7_deal_19 (by decide) (fun b281 => ?_) (fun b281 => ?_)
            · refine lv_iload_n hx hb dX7_deal_70 rfl (lv_at hl94 0 rfl) ?_
              exact zz_iret X hr hlk Z92 () (zz_deal w4 (i := 4) (k := 3) b281 b212 (by decide)) [] [] (by decide +kernel) rfl rfl dX7_deal_71
            · refine lv_aload_n hx hb dX7_deal_22 rfl (lv_at hl94 3 rfl) ?_
              refine zz_get X Z92 0 rfl rfl (fun w h => List.mem_cons_of_mem _ (List.mem_append_right _ h)) 0 rfl (zz_m 3 rfl) rfl dX7_deal_23 ?_
              refine lv_iconst (v := 0) hx hb dX7_deal_26 (by decide) ?_
              refine zz_ild X Z92 1 0 rfl rfl (zz_in 0 3047 rfl) dX7_deal_27 ?_
              refine zz_v (v := 4) p269 ?_
              refine lv_bipush (v := 9) hx hb dX7_deal_28 (by decide) ?_
              refine lv_icmp_ge (tgt := 70) hx hb dX7_deal_30 (by decide) (fun h => absurd h (by decide)) (fun _ => ?_)
              refine lv_aload_n hx hb dX7_deal_33 rfl (lv_at hl94 3 rfl) ?_
              refine zz_ci (WC := [(mo, .inr (7, [.ref ms, .ref mi, .ref ma, .int 0, .ref mts, .ref mtz, .ref mtn, .ref mh, .ref mhn, .ref mhw, .ref mhz, .ref mhr, .ref mcl, .ref mtp, .int 0, .int 0, .int 0, .int 0, .int 0, .int 0, .int 0, .int 0, .int 0, .int 0, .int 0, .ref mna, .ref mpi, .ref mca, .ref mwa, .int 0, .ref mrd])), (ms, .inl (kms, 3047, .inl f9268))]) (TC := [(kms, .int)]) (WR := []) (TR := []) (k := 0) (n := 0) Z92 [0, 1] [] [0] [] rfl rfl (by decide +kernel) (by decide +kernel) (by decide +kernel) rfl rfl (fun Zc => va_runV (As := []) (rest := []) X (c7_drawn l D mo ms mi ma mts mtz mtn mh mhn mhw mhz mhr mcl mtp mna mpi mca mwa mrd 0 0 0 0 0 0 0 0 0 0 0 0 0 kms f9268 4 0 0 0 0 0 (zz_nz (zz_nz (zz_nz (zz_nz (zz_nz (zz_nz (zz_nz (zz_nz (zz_nz (zz_nz (zz_nz (zz_nz 1)))))))))))) 0 3 10 0 p269 p270 p271 p272 p273 p274 p275 p276 p277 p278 p279 H89.size) (cwV 0 hts gX7_deal_X7_drawn rfl rfl rfl ⟨rfl, zh_X7_drawn⟩ ⟨Nat.le_of_ble_eq_true rfl, Nat.le_of_ble_eq_true rfl⟩) (zz_pV (ci := 7) Zc 0 rfl rfl) rfl rfl hl94.1 rfl (lv_room (Nat.le_of_ble_eq_true rfl)) dX7_deal_34 ⟨Nat.le_of_ble_eq_true rfl, Nat.le_of_ble_eq_true rfl⟩) rfl rfl (fun r284 u282 H95 locs96 hw283 Z97 => ?_)
              clear Z92
              obtain ⟨f9285, rfl⟩ : ∃ z, z = u282 := ⟨_, rfl⟩
              try dsimp only at hw283 Z97
              obtain ⟨⟨p286, p287, p288, p289, p290, p291, p292, p293, p294, p295, p296⟩, hx297⟩ := hw283
              subst r284
              have Z98 : zz_S D A s [(mo, .inr (7, [.ref ms, .ref mi, .ref ma, .int 0, .ref mts, .ref mtz, .ref mtn, .ref mh, .ref mhn, .ref mhw, .ref mhz, .ref mhr, .ref mcl, .ref mtp, .int 0, .int 0, .int 0, .int 0, .int 0, .int 0, .int 0, .int 0, .int 0, .int 0, .int 0, .ref mna, .ref mpi, .ref mca, .ref mwa, .int 0, .ref mrd])), (ms, .inl (kms, 3047, .inl f9285))] [(kms, .int)] H95 locs96 := Z97
              clear Z97
              refine lv_bipush (v := 6) hx hb dX7_deal_37 (by decide) ?_
              refine lv_irem hx hb dX7_deal_39 (by decide) ?_
              refine lv_topi (fun y298 ey299 => ?_)
              refine lv_istore_n (lv' := [(3, .int y298), (2, .int 4), (4, .int y247), (0, .ref mo), (1, .int n)]) hx hb dX7_deal_40 rfl hl94 (by decide) rfl (fun ls99 hl100 => ?_)
              clear hl94
              refine lv_aload_n hx hb dX7_deal_41 rfl (lv_at hl100 3 rfl) ?_
              refine zz_ci (WC := [(mo, .inr (7, [.ref ms, .ref mi, .ref ma, .int 0, .ref mts, .ref mtz, .ref mtn, .ref mh, .ref mhn, .ref mhw, .ref mhz, .ref mhr, .ref mcl, .ref mtp, .int 0, .int 0, .int 0, .int 0, .int 0, .int 0, .int 0, .int 0, .int 0, .int 0, .int 0, .ref mna, .ref mpi, .ref mca, .ref mwa, .int 0, .ref mrd])), (ms, .inl (kms, 3047, .inl f9285))]) (TC := [(kms, .int)]) (WR := []) (TR := []) (k := 0) (n := 0) Z98 [0, 1] [] [0] [] rfl rfl (by decide +kernel) (by decide +kernel) (by decide +kernel) rfl rfl (fun Zc => va_runV (As := []) (rest := []) X (c7_drawn l D mo ms mi ma mts mtz mtn mh mhn mhw mhz mhr mcl mtp mna mpi mca mwa mrd 0 0 0 0 0 0 0 0 0 0 0 0 0 kms f9285 4 0 0 0 0 0 (zz_nz (zz_nz (zz_nz (zz_nz (zz_nz (zz_nz (zz_nz (zz_nz (zz_nz (zz_nz (zz_nz (zz_nz (zz_nz 1))))))))))))) 0 3 10 0 p286 p287 p288 p289 p290 p291 p292 p293 p294 p295 p296 H95.size) (cwV 0 hts gX7_deal_X7_drawn rfl rfl rfl ⟨rfl, zh_X7_drawn⟩ ⟨Nat.le_of_ble_eq_true rfl, Nat.le_of_ble_eq_true rfl⟩) (zz_pV (ci := 7) Zc 0 rfl rfl) rfl rfl hl100.1 rfl (lv_room (Nat.le_of_ble_eq_true rfl)) dX7_deal_42 ⟨Nat.le_of_ble_eq_true rfl, Nat.le_of_ble_eq_true rfl⟩) rfl rfl (fun r302 u300 H101 locs102 hw301 Z103 => ?_)
              clear Z98
              obtain ⟨f9303, rfl⟩ : ∃ z, z = u300 := ⟨_, rfl⟩
              try dsimp only at hw301 Z103
              obtain ⟨⟨p304, p305, p306, p307, p308, p309, p310, p311, p312, p313, p314⟩, hx315⟩ := hw301
              subst r302
              have Z104 : zz_S D A s [(mo, .inr (7, [.ref ms, .ref mi, .ref ma, .int 0, .ref mts, .ref mtz, .ref mtn, .ref mh, .ref mhn, .ref mhw, .ref mhz, .ref mhr, .ref mcl, .ref mtp, .int 0, .int 0, .int 0, .int 0, .int 0, .int 0, .int 0, .int 0, .int 0, .int 0, .int 0, .ref mna, .ref mpi, .ref mca, .ref mwa, .int 0, .ref mrd])), (ms, .inl (kms, 3047, .inl f9303))] [(kms, .int)] H101 locs102 := Z103
              clear Z103
              refine lv_bipush (v := 12) hx hb dX7_deal_45 (by decide) ?_
              refine lv_irem hx hb dX7_deal_47 (by decide) ?_
              refine lv_topi (fun y316 ey317 => ?_)
              refine lv_istore (lv' := [(4, .int y316), (3, .int y298), (2, .int 4), (0, .ref mo), (1, .int n)]) hx hb dX7_deal_48 hl100 (by decide) rfl (fun ls105 hl106 => ?_)
              clear hl100
              refine lv_aload_n hx hb dX7_deal_50 rfl (lv_at hl106 3 rfl) ?_
              refine lv_iload_n hx hb dX7_deal_51 rfl (lv_at hl106 1 rfl) ?_
              refine lv_iload hx hb dX7_deal_52 (lv_at hl106 0 rfl) ?_
              refine lv_aload_n hx hb dX7_deal_54 rfl (lv_at hl106 3 rfl) ?_
              refine zz_ci (WC := [(mo, .inr (7, [.ref ms, .ref mi, .ref ma, .int 0, .ref mts, .ref mtz, .ref mtn, .ref mh, .ref mhn, .ref mhw, .ref mhz, .ref mhr, .ref mcl, .ref mtp, .int 0, .int 0, .int 0, .int 0, .int 0, .int 0, .int 0, .int 0, .int 0, .int 0, .int 0, .ref mna, .ref mpi, .ref mca, .ref mwa, .int 0, .ref mrd])), (ms, .inl (kms, 3047, .inl f9303))]) (TC := [(kms, .int)]) (WR := []) (TR := []) (k := 0) (n := 0) Z104 [0, 1] [] [0] [] rfl rfl (by decide +kernel) (by decide +kernel) (by decide +kernel) rfl rfl (fun Zc => va_runV (As := []) (rest := [.int y316, .int y298, .ref mo]) X (c7_drawn l D mo ms mi ma mts mtz mtn mh mhn mhw mhz mhr mcl mtp mna mpi mca mwa mrd 0 0 0 0 0 0 0 0 0 0 0 0 0 kms f9303 4 0 0 0 0 0 (zz_nz (zz_nz (zz_nz (zz_nz (zz_nz (zz_nz (zz_nz (zz_nz (zz_nz (zz_nz (zz_nz (zz_nz (zz_nz (zz_nz 1)))))))))))))) 0 3 10 0 p304 p305 p306 p307 p308 p309 p310 p311 p312 p313 p314 H101.size) (cwV 0 hts gX7_deal_X7_drawn rfl rfl rfl ⟨rfl, zh_X7_drawn⟩ ⟨Nat.le_of_ble_eq_true rfl, Nat.le_of_ble_eq_true rfl⟩) (zz_pV (ci := 7) Zc 0 rfl rfl) rfl rfl hl106.1 rfl (lv_room (Nat.le_of_ble_eq_true rfl)) dX7_deal_55 ⟨Nat.le_of_ble_eq_true rfl, Nat.le_of_ble_eq_true rfl⟩) rfl rfl (fun r320 u318 H107 locs108 hw319 Z109 => ?_)
              clear Z104
              obtain ⟨f9321, rfl⟩ : ∃ z, z = u318 := ⟨_, rfl⟩
              try dsimp only at hw319 Z109
              obtain ⟨⟨p322, p323, p324, p325, p326, p327, p328, p329, p330, p331, p332⟩, hx333⟩ := hw319
              subst r320
              have Z110 : zz_S D A s [(mo, .inr (7, [.ref ms, .ref mi, .ref ma, .int 0, .ref mts, .ref mtz, .ref mtn, .ref mh, .ref mhn, .ref mhw, .ref mhz, .ref mhr, .ref mcl, .ref mtp, .int 0, .int 0, .int 0, .int 0, .int 0, .int 0, .int 0, .int 0, .int 0, .int 0, .int 0, .ref mna, .ref mpi, .ref mca, .ref mwa, .int 0, .ref mrd])), (ms, .inl (kms, 3047, .inl f9321))] [(kms, .int)] H107 locs108 := Z109
              clear Z109
              refine lv_bipush (v := 40) hx hb dX7_deal_58 (by decide) ?_
              refine lv_irem hx hb dX7_deal_60 (by decide) ?_
              refine zz_cv (WC := [(mo, .inr (7, [.ref ms, .ref mi, .ref ma, .int 0, .ref mts, .ref mtz, .ref mtn, .ref mh, .ref mhn, .ref mhw, .ref mhz, .ref mhr, .ref mcl, .ref mtp, .int 0, .int 0, .int 0, .int 0, .int 0, .int 0, .int 0, .int 0, .int 0, .int 0, .int 0, .ref mna, .ref mpi, .ref mca, .ref mwa, .int 0, .ref mrd])), (ms, .inl (kms, 3047, .inl f9321))]) (TC := [(kms, .int)]) (WR := []) (TR := []) (k := 0) (n := 0) Z110 [0, 1] [] [0] [] rfl rfl (by decide +kernel) (by decide +kernel) (by decide +kernel) rfl rfl (fun Zc => va_runV (As := [.int y298, .int y316, .int ((zz_dr (zz_nz (zz_nz (zz_nz (zz_nz (zz_nz (zz_nz (zz_nz (zz_nz (zz_nz (zz_nz (zz_nz (zz_nz (zz_nz (zz_nz 1))))))))))))))) - (zz_dr (zz_nz (zz_nz (zz_nz (zz_nz (zz_nz (zz_nz (zz_nz (zz_nz (zz_nz (zz_nz (zz_nz (zz_nz (zz_nz (zz_nz 1))))))))))))))) / 40 * 40)]) (rest := []) X (c7_comes4 l D mo ms mi ma mts mtz mtn mh mhn mhw mhz mhr mcl mtp mna mpi mca mwa mrd 0 0 0 0 0 0 0 0 0 0 0 0 0 kms f9321 0 0 0 0 0 (zz_nz (zz_nz (zz_nz (zz_nz (zz_nz (zz_nz (zz_nz (zz_nz (zz_nz (zz_nz (zz_nz (zz_nz (zz_nz (zz_nz (zz_nz 1))))))))))))))) 0 3 10 0 y298 y316 ((zz_dr (zz_nz (zz_nz (zz_nz (zz_nz (zz_nz (zz_nz (zz_nz (zz_nz (zz_nz (zz_nz (zz_nz (zz_nz (zz_nz (zz_nz 1))))))))))))))) - (zz_dr (zz_nz (zz_nz (zz_nz (zz_nz (zz_nz (zz_nz (zz_nz (zz_nz (zz_nz (zz_nz (zz_nz (zz_nz (zz_nz (zz_nz 1))))))))))))))) / 40 * 40) p322 p323 p324 p325 p326 p327 p328 p329 p330 p331 p332 H107.size) (cwV 3 hts gX7_deal_X7_comes rfl rfl rfl ⟨rfl, zh_X7_comes⟩ ⟨Nat.le_of_ble_eq_true rfl, Nat.le_of_ble_eq_true rfl⟩) (zz_pV (ci := 7) Zc 0 rfl rfl) rfl rfl hl106.1 rfl (lv_room (Nat.le_of_ble_eq_true rfl)) dX7_deal_61 ⟨Nat.le_of_ble_eq_true rfl, Nat.le_of_ble_eq_true rfl⟩) rfl rfl (fun u334 H111 locs112 hw335 Z113 => ?_)
              clear Z110
              obtain ⟨f9337, rfl⟩ : ∃ z, z = u334 := ⟨_, rfl⟩
              try dsimp only at hw335 Z113
              obtain ⟨⟨p338, p339, p340, p341, p342, p343, p344, p345, p346, p347, p348⟩, hx349⟩ := hw335
              have Z114 : zz_S D A s [(mo, .inr (7, [.ref ms, .ref mi, .ref ma, .int 0, .ref mts, .ref mtz, .ref mtn, .ref mh, .ref mhn, .ref mhw, .ref mhz, .ref mhr, .ref mcl, .ref mtp, .int 0, .int 0, .int 0, .int 0, .int 0, .int 0, .int 0, .int 0, .int 0, .int 0, .int 0, .ref mna, .ref mpi, .ref mca, .ref mwa, .int 0, .ref mrd])), (ms, .inl (kms, 3047, .inl f9337))] [(kms, .int)] H111 locs112 := Z113
              clear Z113
              refine lv_iinc (v := 5) (lv' := [(2, .int 5), (4, .int y316), (3, .int y298), (0, .ref mo), (1, .int n)]) hx hb dX7_deal_64 hl106 (k := 2) rfl (by decide) (by decide) rfl (fun ls115 hl116 => ?_)
              clear hl106
              refine lv_goto (tgt := 17) hx hb dX7_deal_67 (by decide) ?_
              refine lv_iload_n hx hb dX7_deal_17 rfl (lv_at hl116 0 rfl) ?_
              refine lv_iload_n hx hb dX7_deal_18 rfl (lv_at hl116 4 rfl) ?_
              refine lv_icmp_ge (tgt := 70) hx hb dX7_deal_19 (by decide) (fun b350 => ?_) (fun b350 => ?_)
              · refine lv_iload_n hx hb dX7_deal_70 rfl (lv_at hl116 0 rfl) ?_
                exact zz_iret X hr hlk Z114 () (zz_deal w4 (i := 5) (k := 4) b350 b281 (by decide)) [] [] (by decide +kernel) rfl rfl dX7_deal_71
              · refine lv_aload_n hx hb dX7_deal_22 rfl (lv_at hl116 3 rfl) ?_
                refine zz_get X Z114 0 rfl rfl (fun w h => List.mem_cons_of_mem _ (List.mem_append_right _ h)) 0 rfl (zz_m 3 rfl) rfl dX7_deal_23 ?_
                refine lv_iconst (v := 0) hx hb dX7_deal_26 (by decide) ?_
                refine zz_ild X Z114 1 0 rfl rfl (zz_in 0 3047 rfl) dX7_deal_27 ?_
                refine zz_v (v := 5) p338 ?_
                refine lv_bipush (v := 9) hx hb dX7_deal_28 (by decide) ?_
                refine lv_icmp_ge (tgt := 70) hx hb dX7_deal_30 (by decide) (fun h => absurd h (by decide)) (fun _ => ?_)
                refine lv_aload_n hx hb dX7_deal_33 rfl (lv_at hl116 3 rfl) ?_
                refine zz_ci (WC := [(mo, .inr (7, [.ref ms, .ref mi, .ref ma, .int 0, .ref mts, .ref mtz, .ref mtn, .ref mh, .ref mhn, .ref mhw, .ref mhz, .ref mhr, .ref mcl, .ref mtp, .int 0, .int 0, .int 0, .int 0, .int 0, .int 0, .int 0, .int 0, .int 0, .int 0, .int 0, .ref mna, .ref mpi, .ref mca, .ref mwa, .int 0, .ref mrd])), (ms, .inl (kms, 3047, .inl f9337))]) (TC := [(kms, .int)]) (WR := []) (TR := []) (k := 0) (n := 0) Z114 [0, 1] [] [0] [] rfl rfl (by decide +kernel) (by decide +kernel) (by decide +kernel) rfl rfl (fun Zc => va_runV (As := []) (rest := []) X (c7_drawn l D mo ms mi ma mts mtz mtn mh mhn mhw mhz mhr mcl mtp mna mpi mca mwa mrd 0 0 0 0 0 0 0 0 0 0 0 0 0 kms f9337 5 0 0 0 0 0 (zz_nz (zz_nz (zz_nz (zz_nz (zz_nz (zz_nz (zz_nz (zz_nz (zz_nz (zz_nz (zz_nz (zz_nz (zz_nz (zz_nz (zz_nz 1))))))))))))))) 0 3 10 0 p338 p339 p340 p341 p342 p343 p344 p345 p346 p347 p348 H111.size) (cwV 0 hts gX7_deal_X7_drawn rfl rfl rfl ⟨rfl, zh_X7_drawn⟩ ⟨Nat.le_of_ble_eq_true rfl, Nat.le_of_ble_eq_true rfl⟩) (zz_pV (ci := 7) Zc 0 rfl rfl) rfl rfl hl116.1 rfl (lv_room (Nat.le_of_ble_eq_true rfl)) dX7_deal_34 ⟨Nat.le_of_ble_eq_true rfl, Nat.le_of_ble_eq_true rfl⟩) rfl rfl (fun r353 u351 H117 locs118 hw352 Z119 => ?_)
                clear Z114
                obtain ⟨f9354, rfl⟩ : ∃ z, z = u351 := ⟨_, rfl⟩
                try dsimp only at hw352 Z119
                obtain ⟨⟨p355, p356, p357, p358, p359, p360, p361, p362, p363, p364, p365⟩, hx366⟩ := hw352
                subst r353
                have Z120 : zz_S D A s [(mo, .inr (7, [.ref ms, .ref mi, .ref ma, .int 0, .ref mts, .ref mtz, .ref mtn, .ref mh, .ref mhn, .ref mhw, .ref mhz, .ref mhr, .ref mcl, .ref mtp, .int 0, .int 0, .int 0, .int 0, .int 0, .int 0, .int 0, .int 0, .int 0, .int 0, .int 0, .ref mna, .ref mpi, .ref mca, .ref mwa, .int 0, .ref mrd])), (ms, .inl (kms, 3047, .inl f9354))] [(kms, .int)] H117 locs118 := Z119
                clear Z119
                refine lv_bipush (v := 6) hx hb dX7_deal_37 (by decide) ?_
                refine lv_irem hx hb dX7_deal_39 (by decide) ?_
                refine lv_topi (fun y367 ey368 => ?_)
                refine lv_istore_n (lv' := [(3, .int y367), (2, .int 5), (4, .int y316), (0, .ref mo), (1, .int n)]) hx hb dX7_deal_40 rfl hl116 (by decide) rfl (fun ls121 hl122 => ?_)
                clear hl116
                refine lv_aload_n hx hb dX7_deal_41 rfl (lv_at hl122 3 rfl) ?_
                refine zz_ci (WC := [(mo, .inr (7, [.ref ms, .ref mi, .ref ma, .int 0, .ref mts, .ref mtz, .ref mtn, .ref mh, .ref mhn, .ref mhw, .ref mhz, .ref mhr, .ref mcl, .ref mtp, .int 0, .int 0, .int 0, .int 0, .int 0, .int 0, .int 0, .int 0, .int 0, .int 0, .int 0, .ref mna, .ref mpi, .ref mca, .ref mwa, .int 0, .ref mrd])), (ms, .inl (kms, 3047, .inl f9354))]) (TC := [(kms, .int)]) (WR := []) (TR := []) (k := 0) (n := 0) Z120 [0, 1] [] [0] [] rfl rfl (by decide +kernel) (by decide +kernel) (by decide +kernel) rfl rfl (fun Zc => va_runV (As := []) (rest := []) X (c7_drawn l D mo ms mi ma mts mtz mtn mh mhn mhw mhz mhr mcl mtp mna mpi mca mwa mrd 0 0 0 0 0 0 0 0 0 0 0 0 0 kms f9354 5 0 0 0 0 0 (zz_nz (zz_nz (zz_nz (zz_nz (zz_nz (zz_nz (zz_nz (zz_nz (zz_nz (zz_nz (zz_nz (zz_nz (zz_nz (zz_nz (zz_nz (zz_nz 1)))))))))))))))) 0 3 10 0 p355 p356 p357 p358 p359 p360 p361 p362 p363 p364 p365 H117.size) (cwV 0 hts gX7_deal_X7_drawn rfl rfl rfl ⟨rfl, zh_X7_drawn⟩ ⟨Nat.le_of_ble_eq_true rfl, Nat.le_of_ble_eq_true rfl⟩) (zz_pV (ci := 7) Zc 0 rfl rfl) rfl rfl hl122.1 rfl (lv_room (Nat.le_of_ble_eq_true rfl)) dX7_deal_42 ⟨Nat.le_of_ble_eq_true rfl, Nat.le_of_ble_eq_true rfl⟩) rfl rfl (fun r371 u369 H123 locs124 hw370 Z125 => ?_)
                clear Z120
                obtain ⟨f9372, rfl⟩ : ∃ z, z = u369 := ⟨_, rfl⟩
                try dsimp only at hw370 Z125
                obtain ⟨⟨p373, p374, p375, p376, p377, p378, p379, p380, p381, p382, p383⟩, hx384⟩ := hw370
                subst r371
                have Z126 : zz_S D A s [(mo, .inr (7, [.ref ms, .ref mi, .ref ma, .int 0, .ref mts, .ref mtz, .ref mtn, .ref mh, .ref mhn, .ref mhw, .ref mhz, .ref mhr, .ref mcl, .ref mtp, .int 0, .int 0, .int 0, .int 0, .int 0, .int 0, .int 0, .int 0, .int 0, .int 0, .int 0, .ref mna, .ref mpi, .ref mca, .ref mwa, .int 0, .ref mrd])), (ms, .inl (kms, 3047, .inl f9372))] [(kms, .int)] H123 locs124 := Z125
                clear Z125
                refine lv_bipush (v := 12) hx hb dX7_deal_45 (by decide) ?_
                refine lv_irem hx hb dX7_deal_47 (by decide) ?_
                refine lv_topi (fun y385 ey386 => ?_)
                refine lv_istore (lv' := [(4, .int y385), (3, .int y367), (2, .int 5), (0, .ref mo), (1, .int n)]) hx hb dX7_deal_48 hl122 (by decide) rfl (fun ls127 hl128 => ?_)
                clear hl122
                refine lv_aload_n hx hb dX7_deal_50 rfl (lv_at hl128 3 rfl) ?_
                refine lv_iload_n hx hb dX7_deal_51 rfl (lv_at hl128 1 rfl) ?_
                refine lv_iload hx hb dX7_deal_52 (lv_at hl128 0 rfl) ?_
                refine lv_aload_n hx hb dX7_deal_54 rfl (lv_at hl128 3 rfl) ?_
                refine zz_ci (WC := [(mo, .inr (7, [.ref ms, .ref mi, .ref ma, .int 0, .ref mts, .ref mtz, .ref mtn, .ref mh, .ref mhn, .ref mhw, .ref mhz, .ref mhr, .ref mcl, .ref mtp, .int 0, .int 0, .int 0, .int 0, .int 0, .int 0, .int 0, .int 0, .int 0, .int 0, .int 0, .ref mna, .ref mpi, .ref mca, .ref mwa, .int 0, .ref mrd])), (ms, .inl (kms, 3047, .inl f9372))]) (TC := [(kms, .int)]) (WR := []) (TR := []) (k := 0) (n := 0) Z126 [0, 1] [] [0] [] rfl rfl (by decide +kernel) (by decide +kernel) (by decide +kernel) rfl rfl (fun Zc => va_runV (As := []) (rest := [.int y385, .int y367, .ref mo]) X (c7_drawn l D mo ms mi ma mts mtz mtn mh mhn mhw mhz mhr mcl mtp mna mpi mca mwa mrd 0 0 0 0 0 0 0 0 0 0 0 0 0 kms f9372 5 0 0 0 0 0 (zz_nz (zz_nz (zz_nz (zz_nz (zz_nz (zz_nz (zz_nz (zz_nz (zz_nz (zz_nz (zz_nz (zz_nz (zz_nz (zz_nz (zz_nz (zz_nz (zz_nz 1))))))))))))))))) 0 3 10 0 p373 p374 p375 p376 p377 p378 p379 p380 p381 p382 p383 H123.size) (cwV 0 hts gX7_deal_X7_drawn rfl rfl rfl ⟨rfl, zh_X7_drawn⟩ ⟨Nat.le_of_ble_eq_true rfl, Nat.le_of_ble_eq_true rfl⟩) (zz_pV (ci := 7) Zc 0 rfl rfl) rfl rfl hl128.1 rfl (lv_room (Nat.le_of_ble_eq_true rfl)) dX7_deal_55 ⟨Nat.le_of_ble_eq_true rfl, Nat.le_of_ble_eq_true rfl⟩) rfl rfl (fun r389 u387 H129 locs130 hw388 Z131 => ?_)
                clear Z126
                obtain ⟨f9390, rfl⟩ : ∃ z, z = u387 := ⟨_, rfl⟩
                try dsimp only at hw388 Z131
                obtain ⟨⟨p391, p392, p393, p394, p395, p396, p397, p398, p399, p400, p401⟩, hx402⟩ := hw388
                subst r389
                have Z132 : zz_S D A s [(mo, .inr (7, [.ref ms, .ref mi, .ref ma, .int 0, .ref mts, .ref mtz, .ref mtn, .ref mh, .ref mhn, .ref mhw, .ref mhz, .ref mhr, .ref mcl, .ref mtp, .int 0, .int 0, .int 0, .int 0, .int 0, .int 0, .int 0, .int 0, .int 0, .int 0, .int 0, .ref mna, .ref mpi, .ref mca, .ref mwa, .int 0, .ref mrd])), (ms, .inl (kms, 3047, .inl f9390))] [(kms, .int)] H129 locs130 := Z131
                clear Z131
                refine lv_bipush (v := 40) hx hb dX7_deal_58 (by decide) ?_
                refine lv_irem hx hb dX7_deal_60 (by decide) ?_
                refine zz_cv (WC := [(mo, .inr (7, [.ref ms, .ref mi, .ref ma, .int 0, .ref mts, .ref mtz, .ref mtn, .ref mh, .ref mhn, .ref mhw, .ref mhz, .ref mhr, .ref mcl, .ref mtp, .int 0, .int 0, .int 0, .int 0, .int 0, .int 0, .int 0, .int 0, .int 0, .int 0, .int 0, .ref mna, .ref mpi, .ref mca, .ref mwa, .int 0, .ref mrd])), (ms, .inl (kms, 3047, .inl f9390))]) (TC := [(kms, .int)]) (WR := []) (TR := []) (k := 0) (n := 0) Z132 [0, 1] [] [0] [] rfl rfl (by decide +kernel) (by decide +kernel) (by decide +kernel) rfl rfl (fun Zc => va_runV (As := [.int y367, .int y385, .int ((zz_dr (zz_nz (zz_nz (zz_nz (zz_nz (zz_nz (zz_nz (zz_nz (zz_nz (zz_nz (zz_nz (zz_nz (zz_nz (zz_nz (zz_nz (zz_nz (zz_nz (zz_nz 1)))))))))))))))))) - (zz_dr (zz_nz (zz_nz (zz_nz (zz_nz (zz_nz (zz_nz (zz_nz (zz_nz (zz_nz (zz_nz (zz_nz (zz_nz (zz_nz (zz_nz (zz_nz (zz_nz (zz_nz 1)))))))))))))))))) / 40 * 40)]) (rest := []) X (c7_comes5 l D mo ms mi ma mts mtz mtn mh mhn mhw mhz mhr mcl mtp mna mpi mca mwa mrd 0 0 0 0 0 0 0 0 0 0 0 0 0 kms f9390 0 0 0 0 0 (zz_nz (zz_nz (zz_nz (zz_nz (zz_nz (zz_nz (zz_nz (zz_nz (zz_nz (zz_nz (zz_nz (zz_nz (zz_nz (zz_nz (zz_nz (zz_nz (zz_nz (zz_nz 1)))))))))))))))))) 0 3 10 0 y367 y385 ((zz_dr (zz_nz (zz_nz (zz_nz (zz_nz (zz_nz (zz_nz (zz_nz (zz_nz (zz_nz (zz_nz (zz_nz (zz_nz (zz_nz (zz_nz (zz_nz (zz_nz (zz_nz 1)))))))))))))))))) - (zz_dr (zz_nz (zz_nz (zz_nz (zz_nz (zz_nz (zz_nz (zz_nz (zz_nz (zz_nz (zz_nz (zz_nz (zz_nz (zz_nz (zz_nz (zz_nz (zz_nz (zz_nz 1)))))))))))))))))) / 40 * 40) p391 p392 p393 p394 p395 p396 p397 p398 p399 p400 p401 H129.size) (cwV 3 hts gX7_deal_X7_comes rfl rfl rfl ⟨rfl, zh_X7_comes⟩ ⟨Nat.le_of_ble_eq_true rfl, Nat.le_of_ble_eq_true rfl⟩) (zz_pV (ci := 7) Zc 0 rfl rfl) rfl rfl hl128.1 rfl (lv_room (Nat.le_of_ble_eq_true rfl)) dX7_deal_61 ⟨Nat.le_of_ble_eq_true rfl, Nat.le_of_ble_eq_true rfl⟩) rfl rfl (fun u403 H133 locs134 hw404 Z135 => ?_)
                clear Z132
                obtain ⟨f9406, rfl⟩ : ∃ z, z = u403 := ⟨_, rfl⟩
                try dsimp only at hw404 Z135
                obtain ⟨⟨p407, p408, p409, p410, p411, p412, p413, p414, p415, p416, p417⟩, hx418⟩ := hw404
                have Z136 : zz_S D A s [(mo, .inr (7, [.ref ms, .ref mi, .ref ma, .int 0, .ref mts, .ref mtz, .ref mtn, .ref mh, .ref mhn, .ref mhw, .ref mhz, .ref mhr, .ref mcl, .ref mtp, .int 0, .int 0, .int 0, .int 0, .int 0, .int 0, .int 0, .int 0, .int 0, .int 0, .int 0, .ref mna, .ref mpi, .ref mca, .ref mwa, .int 0, .ref mrd])), (ms, .inl (kms, 3047, .inl f9406))] [(kms, .int)] H133 locs134 := Z135
                clear Z135
                refine lv_iinc (v := 6) (lv' := [(2, .int 6), (4, .int y385), (3, .int y367), (0, .ref mo), (1, .int n)]) hx hb dX7_deal_64 hl128 (k := 2) rfl (by decide) (by decide) rfl (fun ls137 hl138 => ?_)
                clear hl128
                refine lv_goto (tgt := 17) hx hb dX7_deal_67 (by decide) ?_
                refine lv_iload_n hx hb dX7_deal_17 rfl (lv_at hl138 0 rfl) ?_
                refine lv_iload_n hx hb dX7_deal_18 rfl (lv_at hl138 4 rfl) ?_
                refine lv_icmp_ge (tgt := 70) hx hb dX7_deal_19 (by decide) (fun b419 => ?_) (fun b419 => ?_)
                · refine lv_iload_n hx hb dX7_deal_70 rfl (lv_at hl138 0 rfl) ?_
                  exact zz_iret X hr hlk Z136 () (zz_deal w4 (i := 6) (k := 5) b419 b350 (by decide)) [] [] (by decide +kernel) rfl rfl dX7_deal_71
                · refine lv_aload_n hx hb dX7_deal_22 rfl (lv_at hl138 3 rfl) ?_
                  refine zz_get X Z136 0 rfl rfl (fun w h => List.mem_cons_of_mem _ (List.mem_append_right _ h)) 0 rfl (zz_m 3 rfl) rfl dX7_deal_23 ?_
                  refine lv_iconst (v := 0) hx hb dX7_deal_26 (by decide) ?_
                  refine zz_ild X Z136 1 0 rfl rfl (zz_in 0 3047 rfl) dX7_deal_27 ?_
                  refine zz_v (v := 6) p407 ?_
                  refine lv_bipush (v := 9) hx hb dX7_deal_28 (by decide) ?_
                  refine lv_icmp_ge (tgt := 70) hx hb dX7_deal_30 (by decide) (fun h => absurd h (by decide)) (fun _ => ?_)
                  refine lv_aload_n hx hb dX7_deal_33 rfl (lv_at hl138 3 rfl) ?_
                  refine zz_ci (WC := [(mo, .inr (7, [.ref ms, .ref mi, .ref ma, .int 0, .ref mts, .ref mtz, .ref mtn, .ref mh, .ref mhn, .ref mhw, .ref mhz, .ref mhr, .ref mcl, .ref mtp, .int 0, .int 0, .int 0, .int 0, .int 0, .int 0, .int 0, .int 0, .int 0, .int 0, .int 0, .ref mna, .ref mpi, .ref mca, .ref mwa, .int 0, .ref mrd])), (ms, .inl (kms, 3047, .inl f9406))]) (TC := [(kms, .int)]) (WR := []) (TR := []) (k := 0) (n := 0) Z136 [0, 1] [] [0] [] rfl rfl (by decide +kernel) (by decide +kernel) (by decide +kernel) rfl rfl (fun Zc => va_runV (As := []) (rest := []) X (c7_drawn l D mo ms mi ma mts mtz mtn mh mhn mhw mhz mhr mcl mtp mna mpi mca mwa mrd 0 0 0 0 0 0 0 0 0 0 0 0 0 kms f9406 6 0 0 0 0 0 (zz_nz (zz_nz (zz_nz (zz_nz (zz_nz (zz_nz (zz_nz (zz_nz (zz_nz (zz_nz (zz_nz (zz_nz (zz_nz (zz_nz (zz_nz (zz_nz (zz_nz (zz_nz 1)))))))))))))))))) 0 3 10 0 p407 p408 p409 p410 p411 p412 p413 p414 p415 p416 p417 H133.size) (cwV 0 hts gX7_deal_X7_drawn rfl rfl rfl ⟨rfl, zh_X7_drawn⟩ ⟨Nat.le_of_ble_eq_true rfl, Nat.le_of_ble_eq_true rfl⟩) (zz_pV (ci := 7) Zc 0 rfl rfl) rfl rfl hl138.1 rfl (lv_room (Nat.le_of_ble_eq_true rfl)) dX7_deal_34 ⟨Nat.le_of_ble_eq_true rfl, Nat.le_of_ble_eq_true rfl⟩) rfl rfl (fun r422 u420 H139 locs140 hw421 Z141 => ?_)
                  clear Z136
                  obtain ⟨f9423, rfl⟩ : ∃ z, z = u420 := ⟨_, rfl⟩
                  try dsimp only at hw421 Z141
                  obtain ⟨⟨p424, p425, p426, p427, p428, p429, p430, p431, p432, p433, p434⟩, hx435⟩ := hw421
                  subst r422
                  have Z142 : zz_S D A s [(mo, .inr (7, [.ref ms, .ref mi, .ref ma, .int 0, .ref mts, .ref mtz, .ref mtn, .ref mh, .ref mhn, .ref mhw, .ref mhz, .ref mhr, .ref mcl, .ref mtp, .int 0, .int 0, .int 0, .int 0, .int 0, .int 0, .int 0, .int 0, .int 0, .int 0, .int 0, .ref mna, .ref mpi, .ref mca, .ref mwa, .int 0, .ref mrd])), (ms, .inl (kms, 3047, .inl f9423))] [(kms, .int)] H139 locs140 := Z141
                  clear Z141
                  refine lv_bipush (v := 6) hx hb dX7_deal_37 (by decide) ?_
                  refine lv_irem hx hb dX7_deal_39 (by decide) ?_
                  refine lv_topi (fun y436 ey437 => ?_)
                  refine lv_istore_n (lv' := [(3, .int y436), (2, .int 6), (4, .int y385), (0, .ref mo), (1, .int n)]) hx hb dX7_deal_40 rfl hl138 (by decide) rfl (fun ls143 hl144 => ?_)
                  clear hl138
                  refine lv_aload_n hx hb dX7_deal_41 rfl (lv_at hl144 3 rfl) ?_
                  refine zz_ci (WC := [(mo, .inr (7, [.ref ms, .ref mi, .ref ma, .int 0, .ref mts, .ref mtz, .ref mtn, .ref mh, .ref mhn, .ref mhw, .ref mhz, .ref mhr, .ref mcl, .ref mtp, .int 0, .int 0, .int 0, .int 0, .int 0, .int 0, .int 0, .int 0, .int 0, .int 0, .int 0, .ref mna, .ref mpi, .ref mca, .ref mwa, .int 0, .ref mrd])), (ms, .inl (kms, 3047, .inl f9423))]) (TC := [(kms, .int)]) (WR := []) (TR := []) (k := 0) (n := 0) Z142 [0, 1] [] [0] [] rfl rfl (by decide +kernel) (by decide +kernel) (by decide +kernel) rfl rfl (fun Zc => va_runV (As := []) (rest := []) X (c7_drawn l D mo ms mi ma mts mtz mtn mh mhn mhw mhz mhr mcl mtp mna mpi mca mwa mrd 0 0 0 0 0 0 0 0 0 0 0 0 0 kms f9423 6 0 0 0 0 0 (zz_nz (zz_nz (zz_nz (zz_nz (zz_nz (zz_nz (zz_nz (zz_nz (zz_nz (zz_nz (zz_nz (zz_nz (zz_nz (zz_nz (zz_nz (zz_nz (zz_nz (zz_nz (zz_nz 1))))))))))))))))))) 0 3 10 0 p424 p425 p426 p427 p428 p429 p430 p431 p432 p433 p434 H139.size) (cwV 0 hts gX7_deal_X7_drawn rfl rfl rfl ⟨rfl, zh_X7_drawn⟩ ⟨Nat.le_of_ble_eq_true rfl, Nat.le_of_ble_eq_true rfl⟩) (zz_pV (ci := 7) Zc 0 rfl rfl) rfl rfl hl144.1 rfl (lv_room (Nat.le_of_ble_eq_true rfl)) dX7_deal_42 ⟨Nat.le_of_ble_eq_true rfl, Nat.le_of_ble_eq_true rfl⟩) rfl rfl (fun r440 u438 H145 locs146 hw439 Z147 => ?_)
                  clear Z142
                  obtain ⟨f9441, rfl⟩ : ∃ z, z = u438 := ⟨_, rfl⟩
                  try dsimp only at hw439 Z147
                  obtain ⟨⟨p442, p443, p444, p445, p446, p447, p448, p449, p450, p451, p452⟩, hx453⟩ := hw439
                  subst r440
                  have Z148 : zz_S D A s [(mo, .inr (7, [.ref ms, .ref mi, .ref ma, .int 0, .ref mts, .ref mtz, .ref mtn, .ref mh, .ref mhn, .ref mhw, .ref mhz, .ref mhr, .ref mcl, .ref mtp, .int 0, .int 0, .int 0, .int 0, .int 0, .int 0, .int 0, .int 0, .int 0, .int 0, .int 0, .ref mna, .ref mpi, .ref mca, .ref mwa, .int 0, .ref mrd])), (ms, .inl (kms, 3047, .inl f9441))] [(kms, .int)] H145 locs146 := Z147
                  clear Z147
                  refine lv_bipush (v := 12) hx hb dX7_deal_45 (by decide) ?_
                  refine lv_irem hx hb dX7_deal_47 (by decide) ?_
                  refine lv_topi (fun y454 ey455 => ?_)
                  refine lv_istore (lv' := [(4, .int y454), (3, .int y436), (2, .int 6), (0, .ref mo), (1, .int n)]) hx hb dX7_deal_48 hl144 (by decide) rfl (fun ls149 hl150 => ?_)
                  clear hl144
                  refine lv_aload_n hx hb dX7_deal_50 rfl (lv_at hl150 3 rfl) ?_
                  refine lv_iload_n hx hb dX7_deal_51 rfl (lv_at hl150 1 rfl) ?_
                  refine lv_iload hx hb dX7_deal_52 (lv_at hl150 0 rfl) ?_
                  refine lv_aload_n hx hb dX7_deal_54 rfl (lv_at hl150 3 rfl) ?_
                  refine zz_ci (WC := [(mo, .inr (7, [.ref ms, .ref mi, .ref ma, .int 0, .ref mts, .ref mtz, .ref mtn, .ref mh, .ref mhn, .ref mhw, .ref mhz, .ref mhr, .ref mcl, .ref mtp, .int 0, .int 0, .int 0, .int 0, .int 0, .int 0, .int 0, .int 0, .int 0, .int 0, .int 0, .ref mna, .ref mpi, .ref mca, .ref mwa, .int 0, .ref mrd])), (ms, .inl (kms, 3047, .inl f9441))]) (TC := [(kms, .int)]) (WR := []) (TR := []) (k := 0) (n := 0) Z148 [0, 1] [] [0] [] rfl rfl (by decide +kernel) (by decide +kernel) (by decide +kernel) rfl rfl (fun Zc => va_runV (As := []) (rest := [.int y454, .int y436, .ref mo]) X (c7_drawn l D mo ms mi ma mts mtz mtn mh mhn mhw mhz mhr mcl mtp mna mpi mca mwa mrd 0 0 0 0 0 0 0 0 0 0 0 0 0 kms f9441 6 0 0 0 0 0 (zz_nz (zz_nz (zz_nz (zz_nz (zz_nz (zz_nz (zz_nz (zz_nz (zz_nz (zz_nz (zz_nz (zz_nz (zz_nz (zz_nz (zz_nz (zz_nz (zz_nz (zz_nz (zz_nz (zz_nz 1)))))))))))))))))))) 0 3 10 0 p442 p443 p444 p445 p446 p447 p448 p449 p450 p451 p452 H145.size) (cwV 0 hts gX7_deal_X7_drawn rfl rfl rfl ⟨rfl, zh_X7_drawn⟩ ⟨Nat.le_of_ble_eq_true rfl, Nat.le_of_ble_eq_true rfl⟩) (zz_pV (ci := 7) Zc 0 rfl rfl) rfl rfl hl150.1 rfl (lv_room (Nat.le_of_ble_eq_true rfl)) dX7_deal_55 ⟨Nat.le_of_ble_eq_true rfl, Nat.le_of_ble_eq_true rfl⟩) rfl rfl (fun r458 u456 H151 locs152 hw457 Z153 => ?_)
                  clear Z148
                  obtain ⟨f9459, rfl⟩ : ∃ z, z = u456 := ⟨_, rfl⟩
                  try dsimp only at hw457 Z153
                  obtain ⟨⟨p460, p461, p462, p463, p464, p465, p466, p467, p468, p469, p470⟩, hx471⟩ := hw457
                  subst r458
                  have Z154 : zz_S D A s [(mo, .inr (7, [.ref ms, .ref mi, .ref ma, .int 0, .ref mts, .ref mtz, .ref mtn, .ref mh, .ref mhn, .ref mhw, .ref mhz, .ref mhr, .ref mcl, .ref mtp, .int 0, .int 0, .int 0, .int 0, .int 0, .int 0, .int 0, .int 0, .int 0, .int 0, .int 0, .ref mna, .ref mpi, .ref mca, .ref mwa, .int 0, .ref mrd])), (ms, .inl (kms, 3047, .inl f9459))] [(kms, .int)] H151 locs152 := Z153
                  clear Z153
                  refine lv_bipush (v := 40) hx hb dX7_deal_58 (by decide) ?_
                  refine lv_irem hx hb dX7_deal_60 (by decide) ?_
                  refine zz_cv (WC := [(mo, .inr (7, [.ref ms, .ref mi, .ref ma, .int 0, .ref mts, .ref mtz, .ref mtn, .ref mh, .ref mhn, .ref mhw, .ref mhz, .ref mhr, .ref mcl, .ref mtp, .int 0, .int 0, .int 0, .int 0, .int 0, .int 0, .int 0, .int 0, .int 0, .int 0, .int 0, .ref mna, .ref mpi, .ref mca, .ref mwa, .int 0, .ref mrd])), (ms, .inl (kms, 3047, .inl f9459))]) (TC := [(kms, .int)]) (WR := []) (TR := []) (k := 0) (n := 0) Z154 [0, 1] [] [0] [] rfl rfl (by decide +kernel) (by decide +kernel) (by decide +kernel) rfl rfl (fun Zc => va_runV (As := [.int y436, .int y454, .int ((zz_dr (zz_nz (zz_nz (zz_nz (zz_nz (zz_nz (zz_nz (zz_nz (zz_nz (zz_nz (zz_nz (zz_nz (zz_nz (zz_nz (zz_nz (zz_nz (zz_nz (zz_nz (zz_nz (zz_nz (zz_nz 1))))))))))))))))))))) - (zz_dr (zz_nz (zz_nz (zz_nz (zz_nz (zz_nz (zz_nz (zz_nz (zz_nz (zz_nz (zz_nz (zz_nz (zz_nz (zz_nz (zz_nz (zz_nz (zz_nz (zz_nz (zz_nz (zz_nz (zz_nz 1))))))))))))))))))))) / 40 * 40)]) (rest := []) X (c7_comes6 l D mo ms mi ma mts mtz mtn mh mhn mhw mhz mhr mcl mtp mna mpi mca mwa mrd 0 0 0 0 0 0 0 0 0 0 0 0 0 kms f9459 0 0 0 0 0 (zz_nz (zz_nz (zz_nz (zz_nz (zz_nz (zz_nz (zz_nz (zz_nz (zz_nz (zz_nz (zz_nz (zz_nz (zz_nz (zz_nz (zz_nz (zz_nz (zz_nz (zz_nz (zz_nz (zz_nz (zz_nz 1))))))))))))))))))))) 0 3 10 0 y436 y454 ((zz_dr (zz_nz (zz_nz (zz_nz (zz_nz (zz_nz (zz_nz (zz_nz (zz_nz (zz_nz (zz_nz (zz_nz (zz_nz (zz_nz (zz_nz (zz_nz (zz_nz (zz_nz (zz_nz (zz_nz (zz_nz 1))))))))))))))))))))) - (zz_dr (zz_nz (zz_nz (zz_nz (zz_nz (zz_nz (zz_nz (zz_nz (zz_nz (zz_nz (zz_nz (zz_nz (zz_nz (zz_nz (zz_nz (zz_nz (zz_nz (zz_nz (zz_nz (zz_nz (zz_nz 1))))))))))))))))))))) / 40 * 40) p460 p461 p462 p463 p464 p465 p466 p467 p468 p469 p470 H151.size) (cwV 3 hts gX7_deal_X7_comes rfl rfl rfl ⟨rfl, zh_X7_comes⟩ ⟨Nat.le_of_ble_eq_true rfl, Nat.le_of_ble_eq_true rfl⟩) (zz_pV (ci := 7) Zc 0 rfl rfl) rfl rfl hl150.1 rfl (lv_room (Nat.le_of_ble_eq_true rfl)) dX7_deal_61 ⟨Nat.le_of_ble_eq_true rfl, Nat.le_of_ble_eq_true rfl⟩) rfl rfl (fun u472 H155 locs156 hw473 Z157 => ?_)
                  clear Z154
                  obtain ⟨f9475, rfl⟩ : ∃ z, z = u472 := ⟨_, rfl⟩
                  try dsimp only at hw473 Z157
                  obtain ⟨⟨p476, p477, p478, p479, p480, p481, p482, p483, p484, p485, p486⟩, hx487⟩ := hw473
                  have Z158 : zz_S D A s [(mo, .inr (7, [.ref ms, .ref mi, .ref ma, .int 0, .ref mts, .ref mtz, .ref mtn, .ref mh, .ref mhn, .ref mhw, .ref mhz, .ref mhr, .ref mcl, .ref mtp, .int 0, .int 0, .int 0, .int 0, .int 0, .int 0, .int 0, .int 0, .int 0, .int 0, .int 0, .ref mna, .ref mpi, .ref mca, .ref mwa, .int 0, .ref mrd])), (ms, .inl (kms, 3047, .inl f9475))] [(kms, .int)] H155 locs156 := Z157
                  clear Z157
                  refine lv_iinc (v := 7) (lv' := [(2, .int 7), (4, .int y454), (3, .int y436), (0, .ref mo), (1, .int n)]) hx hb dX7_deal_64 hl150 (k := 2) rfl (by decide) (by decide) rfl (fun ls159 hl160 => ?_)
                  clear hl150
                  refine lv_goto (tgt := 17) hx hb dX7_deal_67 (by decide) ?_
                  refine lv_iload_n hx hb dX7_deal_17 rfl (lv_at hl160 0 rfl) ?_
                  refine lv_iload_n hx hb dX7_deal_18 rfl (lv_at hl160 4 rfl) ?_
                  refine lv_icmp_ge (tgt := 70) hx hb dX7_deal_19 (by decide) (fun b488 => ?_) (fun b488 => ?_)
                  · refine lv_iload_n hx hb dX7_deal_70 rfl (lv_at hl160 0 rfl) ?_
                    exact zz_iret X hr hlk Z158 () (zz_deal w4 (i := 7) (k := 6) b488 b419 (by decide)) [] [] (by decide +kernel) rfl rfl dX7_deal_71
                  · refine lv_aload_n hx hb dX7_deal_22 rfl (lv_at hl160 3 rfl) ?_
                    refine zz_get X Z158 0 rfl rfl (fun w h => List.mem_cons_of_mem _ (List.mem_append_right _ h)) 0 rfl (zz_m 3 rfl) rfl dX7_deal_23 ?_
                    refine lv_iconst (v := 0) hx hb dX7_deal_26 (by decide) ?_
                    refine zz_ild X Z158 1 0 rfl rfl (zz_in 0 3047 rfl) dX7_deal_27 ?_
                    refine zz_v (v := 7) p476 ?_
                    refine lv_bipush (v := 9) hx hb dX7_deal_28 (by decide) ?_
                    refine lv_icmp_ge (tgt := 70) hx hb dX7_deal_30 (by decide) (fun h => absurd h (by decide)) (fun _ => ?_)
                    refine lv_aload_n hx hb dX7_deal_33 rfl (lv_at hl160 3 rfl) ?_
                    refine zz_ci (WC := [(mo, .inr (7, [.ref ms, .ref mi, .ref ma, .int 0, .ref mts, .ref mtz, .ref mtn, .ref mh, .ref mhn, .ref mhw, .ref mhz, .ref mhr, .ref mcl, .ref mtp, .int 0, .int 0, .int 0, .int 0, .int 0, .int 0, .int 0, .int 0, .int 0, .int 0, .int 0, .ref mna, .ref mpi, .ref mca, .ref mwa, .int 0, .ref mrd])), (ms, .inl (kms, 3047, .inl f9475))]) (TC := [(kms, .int)]) (WR := []) (TR := []) (k := 0) (n := 0) Z158 [0, 1] [] [0] [] rfl rfl (by decide +kernel) (by decide +kernel) (by decide +kernel) rfl rfl (fun Zc => va_runV (As := []) (rest := []) X (c7_drawn l D mo ms mi ma mts mtz mtn mh mhn mhw mhz mhr mcl mtp mna mpi mca mwa mrd 0 0 0 0 0 0 0 0 0 0 0 0 0 kms f9475 7 0 0 0 0 0 (zz_nz (zz_nz (zz_nz (zz_nz (zz_nz (zz_nz (zz_nz (zz_nz (zz_nz (zz_nz (zz_nz (zz_nz (zz_nz (zz_nz (zz_nz (zz_nz (zz_nz (zz_nz (zz_nz (zz_nz (zz_nz 1))))))))))))))))))))) 0 3 10 0 p476 p477 p478 p479 p480 p481 p482 p483 p484 p485 p486 H155.size) (cwV 0 hts gX7_deal_X7_drawn rfl rfl rfl ⟨rfl, zh_X7_drawn⟩ ⟨Nat.le_of_ble_eq_true rfl, Nat.le_of_ble_eq_true rfl⟩) (zz_pV (ci := 7) Zc 0 rfl rfl) rfl rfl hl160.1 rfl (lv_room (Nat.le_of_ble_eq_true rfl)) dX7_deal_34 ⟨Nat.le_of_ble_eq_true rfl, Nat.le_of_ble_eq_true rfl⟩) rfl rfl (fun r491 u489 H161 locs162 hw490 Z163 => ?_)
                    clear Z158
                    obtain ⟨f9492, rfl⟩ : ∃ z, z = u489 := ⟨_, rfl⟩
                    try dsimp only at hw490 Z163
                    obtain ⟨⟨p493, p494, p495, p496, p497, p498, p499, p500, p501, p502, p503⟩, hx504⟩ := hw490
                    subst r491
                    have Z164 : zz_S D A s [(mo, .inr (7, [.ref ms, .ref mi, .ref ma, .int 0, .ref mts, .ref mtz, .ref mtn, .ref mh, .ref mhn, .ref mhw, .ref mhz, .ref mhr, .ref mcl, .ref mtp, .int 0, .int 0, .int 0, .int 0, .int 0, .int 0, .int 0, .int 0, .int 0, .int 0, .int 0, .ref mna, .ref mpi, .ref mca, .ref mwa, .int 0, .ref mrd])), (ms, .inl (kms, 3047, .inl f9492))] [(kms, .int)] H161 locs162 := Z163
                    clear Z163
                    refine lv_bipush (v := 6) hx hb dX7_deal_37 (by decide) ?_
                    refine lv_irem hx hb dX7_deal_39 (by decide) ?_
                    refine lv_topi (fun y505 ey506 => ?_)
                    refine lv_istore_n (lv' := [(3, .int y505), (2, .int 7), (4, .int y454), (0, .ref mo), (1, .int n)]) hx hb dX7_deal_40 rfl hl160 (by decide) rfl (fun ls165 hl166 => ?_)
                    clear hl160
                    refine lv_aload_n hx hb dX7_deal_41 rfl (lv_at hl166 3 rfl) ?_
                    refine zz_ci (WC := [(mo, .inr (7, [.ref ms, .ref mi, .ref ma, .int 0, .ref mts, .ref mtz, .ref mtn, .ref mh, .ref mhn, .ref mhw, .ref mhz, .ref mhr, .ref mcl, .ref mtp, .int 0, .int 0, .int 0, .int 0, .int 0, .int 0, .int 0, .int 0, .int 0, .int 0, .int 0, .ref mna, .ref mpi, .ref mca, .ref mwa, .int 0, .ref mrd])), (ms, .inl (kms, 3047, .inl f9492))]) (TC := [(kms, .int)]) (WR := []) (TR := []) (k := 0) (n := 0) Z164 [0, 1] [] [0] [] rfl rfl (by decide +kernel) (by decide +kernel) (by decide +kernel) rfl rfl (fun Zc => va_runV (As := []) (rest := []) X (c7_drawn l D mo ms mi ma mts mtz mtn mh mhn mhw mhz mhr mcl mtp mna mpi mca mwa mrd 0 0 0 0 0 0 0 0 0 0 0 0 0 kms f9492 7 0 0 0 0 0 (zz_nz (zz_nz (zz_nz (zz_nz (zz_nz (zz_nz (zz_nz (zz_nz (zz_nz (zz_nz (zz_nz (zz_nz (zz_nz (zz_nz (zz_nz (zz_nz (zz_nz (zz_nz (zz_nz (zz_nz (zz_nz (zz_nz 1)))))))))))))))))))))) 0 3 10 0 p493 p494 p495 p496 p497 p498 p499 p500 p501 p502 p503 H161.size) (cwV 0 hts gX7_deal_X7_drawn rfl rfl rfl ⟨rfl, zh_X7_drawn⟩ ⟨Nat.le_of_ble_eq_true rfl, Nat.le_of_ble_eq_true rfl⟩) (zz_pV (ci := 7) Zc 0 rfl rfl) rfl rfl hl166.1 rfl (lv_room (Nat.le_of_ble_eq_true rfl)) dX7_deal_42 ⟨Nat.le_of_ble_eq_true rfl, Nat.le_of_ble_eq_true rfl⟩) rfl rfl (fun r509 u507 H167 locs168 hw508 Z169 => ?_)
                    clear Z164
                    obtain ⟨f9510, rfl⟩ : ∃ z, z = u507 := ⟨_, rfl⟩
                    try dsimp only at hw508 Z169
                    obtain ⟨⟨p511, p512, p513, p514, p515, p516, p517, p518, p519, p520, p521⟩, hx522⟩ := hw508
                    subst r509
                    have Z170 : zz_S D A s [(mo, .inr (7, [.ref ms, .ref mi, .ref ma, .int 0, .ref mts, .ref mtz, .ref mtn, .ref mh, .ref mhn, .ref mhw, .ref mhz, .ref mhr, .ref mcl, .ref mtp, .int 0, .int 0, .int 0, .int 0, .int 0, .int 0, .int 0, .int 0, .int 0, .int 0, .int 0, .ref mna, .ref mpi, .ref mca, .ref mwa, .int 0, .ref mrd])), (ms, .inl (kms, 3047, .inl f9510))] [(kms, .int)] H167 locs168 := Z169
                    clear Z169
                    refine lv_bipush (v := 12) hx hb dX7_deal_45 (by decide) ?_
                    refine lv_irem hx hb dX7_deal_47 (by decide) ?_
                    refine lv_topi (fun y523 ey524 => ?_)
                    refine lv_istore (lv' := [(4, .int y523), (3, .int y505), (2, .int 7), (0, .ref mo), (1, .int n)]) hx hb dX7_deal_48 hl166 (by decide) rfl (fun ls171 hl172 => ?_)
                    clear hl166
                    refine lv_aload_n hx hb dX7_deal_50 rfl (lv_at hl172 3 rfl) ?_
                    refine lv_iload_n hx hb dX7_deal_51 rfl (lv_at hl172 1 rfl) ?_
                    refine lv_iload hx hb dX7_deal_52 (lv_at hl172 0 rfl) ?_
                    refine lv_aload_n hx hb dX7_deal_54 rfl (lv_at hl172 3 rfl) ?_
                    refine zz_ci (WC := [(mo, .inr (7, [.ref ms, .ref mi, .ref ma, .int 0, .ref mts, .ref mtz, .ref mtn, .ref mh, .ref mhn, .ref mhw, .ref mhz, .ref mhr, .ref mcl, .ref mtp, .int 0, .int 0, .int 0, .int 0, .int 0, .int 0, .int 0, .int 0, .int 0, .int 0, .int 0, .ref mna, .ref mpi, .ref mca, .ref mwa, .int 0, .ref mrd])), (ms, .inl (kms, 3047, .inl f9510))]) (TC := [(kms, .int)]) (WR := []) (TR := []) (k := 0) (n := 0) Z170 [0, 1] [] [0] [] rfl rfl (by decide +kernel) (by decide +kernel) (by decide +kernel) rfl rfl (fun Zc => va_runV (As := []) (rest := [.int y523, .int y505, .ref mo]) X (c7_drawn l D mo ms mi ma mts mtz mtn mh mhn mhw mhz mhr mcl mtp mna mpi mca mwa mrd 0 0 0 0 0 0 0 0 0 0 0 0 0 kms f9510 7 0 0 0 0 0 (zz_nz (zz_nz (zz_nz (zz_nz (zz_nz (zz_nz (zz_nz (zz_nz (zz_nz (zz_nz (zz_nz (zz_nz (zz_nz (zz_nz (zz_nz (zz_nz (zz_nz (zz_nz (zz_nz (zz_nz (zz_nz (zz_nz (zz_nz 1))))))))))))))))))))))) 0 3 10 0 p511 p512 p513 p514 p515 p516 p517 p518 p519 p520 p521 H167.size) (cwV 0 hts gX7_deal_X7_drawn rfl rfl rfl ⟨rfl, zh_X7_drawn⟩ ⟨Nat.le_of_ble_eq_true rfl, Nat.le_of_ble_eq_true rfl⟩) (zz_pV (ci := 7) Zc 0 rfl rfl) rfl rfl hl172.1 rfl (lv_room (Nat.le_of_ble_eq_true rfl)) dX7_deal_55 ⟨Nat.le_of_ble_eq_true rfl, Nat.le_of_ble_eq_true rfl⟩) rfl rfl (fun r527 u525 H173 locs174 hw526 Z175 => ?_)
                    clear Z170
                    obtain ⟨f9528, rfl⟩ : ∃ z, z = u525 := ⟨_, rfl⟩
                    try dsimp only at hw526 Z175
                    obtain ⟨⟨p529, p530, p531, p532, p533, p534, p535, p536, p537, p538, p539⟩, hx540⟩ := hw526
                    subst r527
                    have Z176 : zz_S D A s [(mo, .inr (7, [.ref ms, .ref mi, .ref ma, .int 0, .ref mts, .ref mtz, .ref mtn, .ref mh, .ref mhn, .ref mhw, .ref mhz, .ref mhr, .ref mcl, .ref mtp, .int 0, .int 0, .int 0, .int 0, .int 0, .int 0, .int 0, .int 0, .int 0, .int 0, .int 0, .ref mna, .ref mpi, .ref mca, .ref mwa, .int 0, .ref mrd])), (ms, .inl (kms, 3047, .inl f9528))] [(kms, .int)] H173 locs174 := Z175
                    clear Z175
                    refine lv_bipush (v := 40) hx hb dX7_deal_58 (by decide) ?_
                    refine lv_irem hx hb dX7_deal_60 (by decide) ?_
                    refine zz_cv (WC := [(mo, .inr (7, [.ref ms, .ref mi, .ref ma, .int 0, .ref mts, .ref mtz, .ref mtn, .ref mh, .ref mhn, .ref mhw, .ref mhz, .ref mhr, .ref mcl, .ref mtp, .int 0, .int 0, .int 0, .int 0, .int 0, .int 0, .int 0, .int 0, .int 0, .int 0, .int 0, .ref mna, .ref mpi, .ref mca, .ref mwa, .int 0, .ref mrd])), (ms, .inl (kms, 3047, .inl f9528))]) (TC := [(kms, .int)]) (WR := []) (TR := []) (k := 0) (n := 0) Z176 [0, 1] [] [0] [] rfl rfl (by decide +kernel) (by decide +kernel) (by decide +kernel) rfl rfl (fun Zc => va_runV (As := [.int y505, .int y523, .int ((zz_dr (zz_nz (zz_nz (zz_nz (zz_nz (zz_nz (zz_nz (zz_nz (zz_nz (zz_nz (zz_nz (zz_nz (zz_nz (zz_nz (zz_nz (zz_nz (zz_nz (zz_nz (zz_nz (zz_nz (zz_nz (zz_nz (zz_nz (zz_nz 1)))))))))))))))))))))))) - (zz_dr (zz_nz (zz_nz (zz_nz (zz_nz (zz_nz (zz_nz (zz_nz (zz_nz (zz_nz (zz_nz (zz_nz (zz_nz (zz_nz (zz_nz (zz_nz (zz_nz (zz_nz (zz_nz (zz_nz (zz_nz (zz_nz (zz_nz (zz_nz 1)))))))))))))))))))))))) / 40 * 40)]) (rest := []) X (c7_comes7 l D mo ms mi ma mts mtz mtn mh mhn mhw mhz mhr mcl mtp mna mpi mca mwa mrd 0 0 0 0 0 0 0 0 0 0 0 0 0 kms f9528 0 0 0 0 0 (zz_nz (zz_nz (zz_nz (zz_nz (zz_nz (zz_nz (zz_nz (zz_nz (zz_nz (zz_nz (zz_nz (zz_nz (zz_nz (zz_nz (zz_nz (zz_nz (zz_nz (zz_nz (zz_nz (zz_nz (zz_nz (zz_nz (zz_nz (zz_nz 1)))))))))))))))))))))))) 0 3 10 0 y505 y523 ((zz_dr (zz_nz (zz_nz (zz_nz (zz_nz (zz_nz (zz_nz (zz_nz (zz_nz (zz_nz (zz_nz (zz_nz (zz_nz (zz_nz (zz_nz (zz_nz (zz_nz (zz_nz (zz_nz (zz_nz (zz_nz (zz_nz (zz_nz (zz_nz 1)))))))))))))))))))))))) - (zz_dr (zz_nz (zz_nz (zz_nz (zz_nz (zz_nz (zz_nz (zz_nz (zz_nz (zz_nz (zz_nz (zz_nz (zz_nz (zz_nz (zz_nz (zz_nz (zz_nz (zz_nz (zz_nz (zz_nz (zz_nz (zz_nz (zz_nz (zz_nz 1)))))))))))))))))))))))) / 40 * 40) p529 p530 p531 p532 p533 p534 p535 p536 p537 p538 p539 H173.size) (cwV 3 hts gX7_deal_X7_comes rfl rfl rfl ⟨rfl, zh_X7_comes⟩ ⟨Nat.le_of_ble_eq_true rfl, Nat.le_of_ble_eq_true rfl⟩) (zz_pV (ci := 7) Zc 0 rfl rfl) rfl rfl hl172.1 rfl (lv_room (Nat.le_of_ble_eq_true rfl)) dX7_deal_61 ⟨Nat.le_of_ble_eq_true rfl, Nat.le_of_ble_eq_true rfl⟩) rfl rfl (fun u541 H177 locs178 hw542 Z179 => ?_)
                    clear Z176
                    obtain ⟨f9544, rfl⟩ : ∃ z, z = u541 := ⟨_, rfl⟩
                    try dsimp only at hw542 Z179
                    obtain ⟨⟨p545, p546, p547, p548, p549, p550, p551, p552, p553, p554, p555⟩, hx556⟩ := hw542
                    have Z180 : zz_S D A s [(mo, .inr (7, [.ref ms, .ref mi, .ref ma, .int 0, .ref mts, .ref mtz, .ref mtn, .ref mh, .ref mhn, .ref mhw, .ref mhz, .ref mhr, .ref mcl, .ref mtp, .int 0, .int 0, .int 0, .int 0, .int 0, .int 0, .int 0, .int 0, .int 0, .int 0, .int 0, .ref mna, .ref mpi, .ref mca, .ref mwa, .int 0, .ref mrd])), (ms, .inl (kms, 3047, .inl f9544))] [(kms, .int)] H177 locs178 := Z179
                    clear Z179
                    refine lv_iinc (v := 8) (lv' := [(2, .int 8), (4, .int y523), (3, .int y505), (0, .ref mo), (1, .int n)]) hx hb dX7_deal_64 hl172 (k := 2) rfl (by decide) (by decide) rfl (fun ls181 hl182 => ?_)
                    clear hl172
                    refine lv_goto (tgt := 17) hx hb dX7_deal_67 (by decide) ?_
                    refine lv_iload_n hx hb dX7_deal_17 rfl (lv_at hl182 0 rfl) ?_
                    refine lv_iload_n hx hb dX7_deal_18 rfl (lv_at hl182 4 rfl) ?_
                    refine lv_icmp_ge (tgt := 70) hx hb dX7_deal_19 (by decide) (fun b557 => ?_) (fun b557 => ?_)
                    · refine lv_iload_n hx hb dX7_deal_70 rfl (lv_at hl182 0 rfl) ?_
                      exact zz_iret X hr hlk Z180 () (zz_deal w4 (i := 8) (k := 7) b557 b488 (by decide)) [] [] (by decide +kernel) rfl rfl dX7_deal_71
                    · refine lv_aload_n hx hb dX7_deal_22 rfl (lv_at hl182 3 rfl) ?_
                      refine zz_get X Z180 0 rfl rfl (fun w h => List.mem_cons_of_mem _ (List.mem_append_right _ h)) 0 rfl (zz_m 3 rfl) rfl dX7_deal_23 ?_
                      refine lv_iconst (v := 0) hx hb dX7_deal_26 (by decide) ?_
                      refine zz_ild X Z180 1 0 rfl rfl (zz_in 0 3047 rfl) dX7_deal_27 ?_
                      refine zz_v (v := 8) p545 ?_
                      refine lv_bipush (v := 9) hx hb dX7_deal_28 (by decide) ?_
                      refine lv_icmp_ge (tgt := 70) hx hb dX7_deal_30 (by decide) (fun h => absurd h (by decide)) (fun _ => ?_)
                      refine lv_aload_n hx hb dX7_deal_33 rfl (lv_at hl182 3 rfl) ?_
                      refine zz_ci (WC := [(mo, .inr (7, [.ref ms, .ref mi, .ref ma, .int 0, .ref mts, .ref mtz, .ref mtn, .ref mh, .ref mhn, .ref mhw, .ref mhz, .ref mhr, .ref mcl, .ref mtp, .int 0, .int 0, .int 0, .int 0, .int 0, .int 0, .int 0, .int 0, .int 0, .int 0, .int 0, .ref mna, .ref mpi, .ref mca, .ref mwa, .int 0, .ref mrd])), (ms, .inl (kms, 3047, .inl f9544))]) (TC := [(kms, .int)]) (WR := []) (TR := []) (k := 0) (n := 0) Z180 [0, 1] [] [0] [] rfl rfl (by decide +kernel) (by decide +kernel) (by decide +kernel) rfl rfl (fun Zc => va_runV (As := []) (rest := []) X (c7_drawn l D mo ms mi ma mts mtz mtn mh mhn mhw mhz mhr mcl mtp mna mpi mca mwa mrd 0 0 0 0 0 0 0 0 0 0 0 0 0 kms f9544 8 0 0 0 0 0 (zz_nz (zz_nz (zz_nz (zz_nz (zz_nz (zz_nz (zz_nz (zz_nz (zz_nz (zz_nz (zz_nz (zz_nz (zz_nz (zz_nz (zz_nz (zz_nz (zz_nz (zz_nz (zz_nz (zz_nz (zz_nz (zz_nz (zz_nz (zz_nz 1)))))))))))))))))))))))) 0 3 10 0 p545 p546 p547 p548 p549 p550 p551 p552 p553 p554 p555 H177.size) (cwV 0 hts gX7_deal_X7_drawn rfl rfl rfl ⟨rfl, zh_X7_drawn⟩ ⟨Nat.le_of_ble_eq_true rfl, Nat.le_of_ble_eq_true rfl⟩) (zz_pV (ci := 7) Zc 0 rfl rfl) rfl rfl hl182.1 rfl (lv_room (Nat.le_of_ble_eq_true rfl)) dX7_deal_34 ⟨Nat.le_of_ble_eq_true rfl, Nat.le_of_ble_eq_true rfl⟩) rfl rfl (fun r560 u558 H183 locs184 hw559 Z185 => ?_)
                      clear Z180
                      obtain ⟨f9561, rfl⟩ : ∃ z, z = u558 := ⟨_, rfl⟩
                      try dsimp only at hw559 Z185
                      obtain ⟨⟨p562, p563, p564, p565, p566, p567, p568, p569, p570, p571, p572⟩, hx573⟩ := hw559
                      subst r560
                      have Z186 : zz_S D A s [(mo, .inr (7, [.ref ms, .ref mi, .ref ma, .int 0, .ref mts, .ref mtz, .ref mtn, .ref mh, .ref mhn, .ref mhw, .ref mhz, .ref mhr, .ref mcl, .ref mtp, .int 0, .int 0, .int 0, .int 0, .int 0, .int 0, .int 0, .int 0, .int 0, .int 0, .int 0, .ref mna, .ref mpi, .ref mca, .ref mwa, .int 0, .ref mrd])), (ms, .inl (kms, 3047, .inl f9561))] [(kms, .int)] H183 locs184 := Z185
                      clear Z185
                      refine lv_bipush (v := 6) hx hb dX7_deal_37 (by decide) ?_
                      refine lv_irem hx hb dX7_deal_39 (by decide) ?_
                      refine lv_topi (fun y574 ey575 => ?_)
                      refine lv_istore_n (lv' := [(3, .int y574), (2, .int 8), (4, .int y523), (0, .ref mo), (1, .int n)]) hx hb dX7_deal_40 rfl hl182 (by decide) rfl (fun ls187 hl188 => ?_)
                      clear hl182
                      refine lv_aload_n hx hb dX7_deal_41 rfl (lv_at hl188 3 rfl) ?_
                      refine zz_ci (WC := [(mo, .inr (7, [.ref ms, .ref mi, .ref ma, .int 0, .ref mts, .ref mtz, .ref mtn, .ref mh, .ref mhn, .ref mhw, .ref mhz, .ref mhr, .ref mcl, .ref mtp, .int 0, .int 0, .int 0, .int 0, .int 0, .int 0, .int 0, .int 0, .int 0, .int 0, .int 0, .ref mna, .ref mpi, .ref mca, .ref mwa, .int 0, .ref mrd])), (ms, .inl (kms, 3047, .inl f9561))]) (TC := [(kms, .int)]) (WR := []) (TR := []) (k := 0) (n := 0) Z186 [0, 1] [] [0] [] rfl rfl (by decide +kernel) (by decide +kernel) (by decide +kernel) rfl rfl (fun Zc => va_runV (As := []) (rest := []) X (c7_drawn l D mo ms mi ma mts mtz mtn mh mhn mhw mhz mhr mcl mtp mna mpi mca mwa mrd 0 0 0 0 0 0 0 0 0 0 0 0 0 kms f9561 8 0 0 0 0 0 (zz_nz (zz_nz (zz_nz (zz_nz (zz_nz (zz_nz (zz_nz (zz_nz (zz_nz (zz_nz (zz_nz (zz_nz (zz_nz (zz_nz (zz_nz (zz_nz (zz_nz (zz_nz (zz_nz (zz_nz (zz_nz (zz_nz (zz_nz (zz_nz (zz_nz 1))))))))))))))))))))))))) 0 3 10 0 p562 p563 p564 p565 p566 p567 p568 p569 p570 p571 p572 H183.size) (cwV 0 hts gX7_deal_X7_drawn rfl rfl rfl ⟨rfl, zh_X7_drawn⟩ ⟨Nat.le_of_ble_eq_true rfl, Nat.le_of_ble_eq_true rfl⟩) (zz_pV (ci := 7) Zc 0 rfl rfl) rfl rfl hl188.1 rfl (lv_room (Nat.le_of_ble_eq_true rfl)) dX7_deal_42 ⟨Nat.le_of_ble_eq_true rfl, Nat.le_of_ble_eq_true rfl⟩) rfl rfl (fun r578 u576 H189 locs190 hw577 Z191 => ?_)
                      clear Z186
                      obtain ⟨f9579, rfl⟩ : ∃ z, z = u576 := ⟨_, rfl⟩
                      try dsimp only at hw577 Z191
                      obtain ⟨⟨p580, p581, p582, p583, p584, p585, p586, p587, p588, p589, p590⟩, hx591⟩ := hw577
                      subst r578
                      have Z192 : zz_S D A s [(mo, .inr (7, [.ref ms, .ref mi, .ref ma, .int 0, .ref mts, .ref mtz, .ref mtn, .ref mh, .ref mhn, .ref mhw, .ref mhz, .ref mhr, .ref mcl, .ref mtp, .int 0, .int 0, .int 0, .int 0, .int 0, .int 0, .int 0, .int 0, .int 0, .int 0, .int 0, .ref mna, .ref mpi, .ref mca, .ref mwa, .int 0, .ref mrd])), (ms, .inl (kms, 3047, .inl f9579))] [(kms, .int)] H189 locs190 := Z191
                      clear Z191
                      refine lv_bipush (v := 12) hx hb dX7_deal_45 (by decide) ?_
                      refine lv_irem hx hb dX7_deal_47 (by decide) ?_
                      refine lv_topi (fun y592 ey593 => ?_)
                      refine lv_istore (lv' := [(4, .int y592), (3, .int y574), (2, .int 8), (0, .ref mo), (1, .int n)]) hx hb dX7_deal_48 hl188 (by decide) rfl (fun ls193 hl194 => ?_)
                      clear hl188
                      refine lv_aload_n hx hb dX7_deal_50 rfl (lv_at hl194 3 rfl) ?_
                      refine lv_iload_n hx hb dX7_deal_51 rfl (lv_at hl194 1 rfl) ?_
                      refine lv_iload hx hb dX7_deal_52 (lv_at hl194 0 rfl) ?_
                      refine lv_aload_n hx hb dX7_deal_54 rfl (lv_at hl194 3 rfl) ?_
                      refine zz_ci (WC := [(mo, .inr (7, [.ref ms, .ref mi, .ref ma, .int 0, .ref mts, .ref mtz, .ref mtn, .ref mh, .ref mhn, .ref mhw, .ref mhz, .ref mhr, .ref mcl, .ref mtp, .int 0, .int 0, .int 0, .int 0, .int 0, .int 0, .int 0, .int 0, .int 0, .int 0, .int 0, .ref mna, .ref mpi, .ref mca, .ref mwa, .int 0, .ref mrd])), (ms, .inl (kms, 3047, .inl f9579))]) (TC := [(kms, .int)]) (WR := []) (TR := []) (k := 0) (n := 0) Z192 [0, 1] [] [0] [] rfl rfl (by decide +kernel) (by decide +kernel) (by decide +kernel) rfl rfl (fun Zc => va_runV (As := []) (rest := [.int y592, .int y574, .ref mo]) X (c7_drawn l D mo ms mi ma mts mtz mtn mh mhn mhw mhz mhr mcl mtp mna mpi mca mwa mrd 0 0 0 0 0 0 0 0 0 0 0 0 0 kms f9579 8 0 0 0 0 0 (zz_nz (zz_nz (zz_nz (zz_nz (zz_nz (zz_nz (zz_nz (zz_nz (zz_nz (zz_nz (zz_nz (zz_nz (zz_nz (zz_nz (zz_nz (zz_nz (zz_nz (zz_nz (zz_nz (zz_nz (zz_nz (zz_nz (zz_nz (zz_nz (zz_nz (zz_nz 1)))))))))))))))))))))))))) 0 3 10 0 p580 p581 p582 p583 p584 p585 p586 p587 p588 p589 p590 H189.size) (cwV 0 hts gX7_deal_X7_drawn rfl rfl rfl ⟨rfl, zh_X7_drawn⟩ ⟨Nat.le_of_ble_eq_true rfl, Nat.le_of_ble_eq_true rfl⟩) (zz_pV (ci := 7) Zc 0 rfl rfl) rfl rfl hl194.1 rfl (lv_room (Nat.le_of_ble_eq_true rfl)) dX7_deal_55 ⟨Nat.le_of_ble_eq_true rfl, Nat.le_of_ble_eq_true rfl⟩) rfl rfl (fun r596 u594 H195 locs196 hw595 Z197 => ?_)
                      clear Z192
                      obtain ⟨f9597, rfl⟩ : ∃ z, z = u594 := ⟨_, rfl⟩
                      try dsimp only at hw595 Z197
                      obtain ⟨⟨p598, p599, p600, p601, p602, p603, p604, p605, p606, p607, p608⟩, hx609⟩ := hw595
                      subst r596
                      have Z198 : zz_S D A s [(mo, .inr (7, [.ref ms, .ref mi, .ref ma, .int 0, .ref mts, .ref mtz, .ref mtn, .ref mh, .ref mhn, .ref mhw, .ref mhz, .ref mhr, .ref mcl, .ref mtp, .int 0, .int 0, .int 0, .int 0, .int 0, .int 0, .int 0, .int 0, .int 0, .int 0, .int 0, .ref mna, .ref mpi, .ref mca, .ref mwa, .int 0, .ref mrd])), (ms, .inl (kms, 3047, .inl f9597))] [(kms, .int)] H195 locs196 := Z197
                      clear Z197
                      refine lv_bipush (v := 40) hx hb dX7_deal_58 (by decide) ?_
                      refine lv_irem hx hb dX7_deal_60 (by decide) ?_
                      refine zz_cv (WC := [(mo, .inr (7, [.ref ms, .ref mi, .ref ma, .int 0, .ref mts, .ref mtz, .ref mtn, .ref mh, .ref mhn, .ref mhw, .ref mhz, .ref mhr, .ref mcl, .ref mtp, .int 0, .int 0, .int 0, .int 0, .int 0, .int 0, .int 0, .int 0, .int 0, .int 0, .int 0, .ref mna, .ref mpi, .ref mca, .ref mwa, .int 0, .ref mrd])), (ms, .inl (kms, 3047, .inl f9597))]) (TC := [(kms, .int)]) (WR := []) (TR := []) (k := 0) (n := 0) Z198 [0, 1] [] [0] [] rfl rfl (by decide +kernel) (by decide +kernel) (by decide +kernel) rfl rfl (fun Zc => va_runV (As := [.int y574, .int y592, .int ((zz_dr (zz_nz (zz_nz (zz_nz (zz_nz (zz_nz (zz_nz (zz_nz (zz_nz (zz_nz (zz_nz (zz_nz (zz_nz (zz_nz (zz_nz (zz_nz (zz_nz (zz_nz (zz_nz (zz_nz (zz_nz (zz_nz (zz_nz (zz_nz (zz_nz (zz_nz (zz_nz 1))))))))))))))))))))))))))) - (zz_dr (zz_nz (zz_nz (zz_nz (zz_nz (zz_nz (zz_nz (zz_nz (zz_nz (zz_nz (zz_nz (zz_nz (zz_nz (zz_nz (zz_nz (zz_nz (zz_nz (zz_nz (zz_nz (zz_nz (zz_nz (zz_nz (zz_nz (zz_nz (zz_nz (zz_nz (zz_nz 1))))))))))))))))))))))))))) / 40 * 40)]) (rest := []) X (c7_comes8 l D mo ms mi ma mts mtz mtn mh mhn mhw mhz mhr mcl mtp mna mpi mca mwa mrd 0 0 0 0 0 0 0 0 0 0 0 0 0 kms f9597 0 0 0 0 0 (zz_nz (zz_nz (zz_nz (zz_nz (zz_nz (zz_nz (zz_nz (zz_nz (zz_nz (zz_nz (zz_nz (zz_nz (zz_nz (zz_nz (zz_nz (zz_nz (zz_nz (zz_nz (zz_nz (zz_nz (zz_nz (zz_nz (zz_nz (zz_nz (zz_nz (zz_nz (zz_nz 1))))))))))))))))))))))))))) 0 3 10 0 y574 y592 ((zz_dr (zz_nz (zz_nz (zz_nz (zz_nz (zz_nz (zz_nz (zz_nz (zz_nz (zz_nz (zz_nz (zz_nz (zz_nz (zz_nz (zz_nz (zz_nz (zz_nz (zz_nz (zz_nz (zz_nz (zz_nz (zz_nz (zz_nz (zz_nz (zz_nz (zz_nz (zz_nz 1))))))))))))))))))))))))))) - (zz_dr (zz_nz (zz_nz (zz_nz (zz_nz (zz_nz (zz_nz (zz_nz (zz_nz (zz_nz (zz_nz (zz_nz (zz_nz (zz_nz (zz_nz (zz_nz (zz_nz (zz_nz (zz_nz (zz_nz (zz_nz (zz_nz (zz_nz (zz_nz (zz_nz (zz_nz (zz_nz 1))))))))))))))))))))))))))) / 40 * 40) p598 p599 p600 p601 p602 p603 p604 p605 p606 p607 p608 H195.size) (cwV 3 hts gX7_deal_X7_comes rfl rfl rfl ⟨rfl, zh_X7_comes⟩ ⟨Nat.le_of_ble_eq_true rfl, Nat.le_of_ble_eq_true rfl⟩) (zz_pV (ci := 7) Zc 0 rfl rfl) rfl rfl hl194.1 rfl (lv_room (Nat.le_of_ble_eq_true rfl)) dX7_deal_61 ⟨Nat.le_of_ble_eq_true rfl, Nat.le_of_ble_eq_true rfl⟩) rfl rfl (fun u610 H199 locs200 hw611 Z201 => ?_)
                      clear Z198
                      obtain ⟨f9613, rfl⟩ : ∃ z, z = u610 := ⟨_, rfl⟩
                      try dsimp only at hw611 Z201
                      obtain ⟨⟨p614, p615, p616, p617, p618, p619, p620, p621, p622, p623, p624⟩, hx625⟩ := hw611
                      have Z202 : zz_S D A s [(mo, .inr (7, [.ref ms, .ref mi, .ref ma, .int 0, .ref mts, .ref mtz, .ref mtn, .ref mh, .ref mhn, .ref mhw, .ref mhz, .ref mhr, .ref mcl, .ref mtp, .int 0, .int 0, .int 0, .int 0, .int 0, .int 0, .int 0, .int 0, .int 0, .int 0, .int 0, .ref mna, .ref mpi, .ref mca, .ref mwa, .int 0, .ref mrd])), (ms, .inl (kms, 3047, .inl f9613))] [(kms, .int)] H199 locs200 := Z201
                      clear Z201
                      refine lv_iinc (v := 9) (lv' := [(2, .int 9), (4, .int y592), (3, .int y574), (0, .ref mo), (1, .int n)]) hx hb dX7_deal_64 hl194 (k := 2) rfl (by decide) (by decide) rfl (fun ls203 hl204 => ?_)
                      clear hl194
                      refine lv_goto (tgt := 17) hx hb dX7_deal_67 (by decide) ?_
                      refine lv_iload_n hx hb dX7_deal_17 rfl (lv_at hl204 0 rfl) ?_
                      refine lv_iload_n hx hb dX7_deal_18 rfl (lv_at hl204 4 rfl) ?_
                      refine lv_icmp_ge (tgt := 70) hx hb dX7_deal_19 (by decide) (fun _ => ?_) (fun h => absurd w4.2 h)
                      refine lv_iload_n hx hb dX7_deal_70 rfl (lv_at hl204 0 rfl) ?_
                      exact zz_iret X hr hlk Z202 () (zz_deal w4 (i := 9) (k := 8) w4.2 b557 (by decide)) [] [] (by decide +kernel) rfl rfl dX7_deal_71
  · refine zz_v (v := 0) (zz_wiF w4) ?_
    refine lv_if_ne (tgt := 15) hx hb dX7_deal_9 (by decide) (fun h => absurd (by decide) h) (fun _ => ?_)
    refine lv_ldc (v := (-1000000001)) hx hb hown (hts _ (zz_m 2 rfl)) dX7_deal_12 ?_
    exact zz_iret X hr hlk Z4 () (if_neg w4).symm [] [] (by decide +kernel) rfl rfl dX7_deal_14

set_option maxHeartbeats 4000000 in
set_option maxRecDepth 100000 in
theorem c7_hours (l : Launch) (D : va_G) (mo : Nat) (ms : Nat) (mi : Nat) (ma : Nat) (mts : Nat) (mtz : Nat) (mtn : Nat) (mh : Nat) (mhn : Nat) (mhw : Nat) (mhz : Nat) (mhr : Nat) (mcl : Nat) (mtp : Nat) (mna : Nat) (mpi : Nat) (mca : Nat) (mwa : Nat) (mrd : Nat) (kms : ClassId) (f : (Nat → Int32)) (n : Int32) (af_0 : f 0 = 0) (af_1 : f 1 = 0) (af_2 : f 2 = 0) (af_3 : f 3 = 0) (af_4 : f 4 = 0) (af_5 : f 5 = 0) (af_6 : f 6 = 1) (af_7 : f 7 = 0) (af_8 : f 8 = 3) (af_9 : f 9 = 10) (af_10 : f 10 = 0) : zz_MI l yX7_hours wsX7_hours 4 84 0 0 D [.ref mo, .int n] [(mo, .inr (7, [.ref ms, .ref mi, .ref ma, .int 0, .ref mts, .ref mtz, .ref mtn, .ref mh, .ref mhn, .ref mhw, .ref mhz, .ref mhr, .ref mcl, .ref mtp, .int 0, .int 0, .int 0, .int 0, .int 0, .int 0, .int 0, .int 0, .int 0, .int 0, .int 0, .ref mna, .ref mpi, .ref mca, .ref mwa, .int 0, .ref mrd])), (ms, .inl (kms, 3047, .inl f))] [(kms, .int)] (fun (r : Int32) (u : Unit) => r = sp_hours n) (fun (u : Unit) => []) (fun (u : Unit) => []) := by
  intro sz
  refine Met.ofW (cc := cX7_hours) (maxL := 4) (ret := (some .int)) (by decide) rfl ?_
  intro p e s m args below meth c s₁ B hml hv
  obtain ⟨rfl, hC⟩ := hv
  have hx := B.exec
  have hb := B.bytes
  have hr := B.returns
  have hts := atoms_spec (ws := wsX7_hours) B.pre
  have hown : s.vm.findClass RX7 = some m.cls := findClass_of_methodNamed B.named
  have hlk := B.notSynchronized
  have X : CallFix p m c cX7_hours 4 s _ wsX7_hours RX7 := ⟨hx, hb, hml, hown, hts⟩
  have Z := zz_enter hC
  generalize va_A [(mo, .inr (7, [.ref ms, .ref mi, .ref ma, .int 0, .ref mts, .ref mtz, .ref mtn, .ref mh, .ref mhn, .ref mhw, .ref mhz, .ref mhr, .ref mcl, .ref mtp, .int 0, .int 0, .int 0, .int 0, .int 0, .int 0, .int 0, .int 0, .int 0, .int 0, .int 0, .ref mna, .ref mpi, .ref mca, .ref mwa, .int 0, .ref mrd])), (ms, .inl (kms, 3047, .inl f))] sz = A at Z ⊢
  have hl := lv_entry ([.ref mo, .int n]) (n := 4) (Nat.le_of_ble_eq_true rfl)
  rw [lg_entry_eq]
  generalize (lg_sl ([.ref mo, .int n]) ++ List.replicate (4 - (lg_sl ([.ref mo, .int n])).length) Slot.unset).toArray = ls at hl ⊢
  have hl : lv_has ls 4 [(0, .ref mo), (1, .int n)] := hl
  refine lv_iload_n hx hb dX7_hours_0 rfl (lv_at hl 1 rfl) ?_
  refine lv_i2l (v := Int32.toInt64 n) hx hb dX7_hours_1 rfl ?_
  refine lv_lconst (v := 1) hx hb dX7_hours_2 (by decide) ?_
  refine zz_vl (v := Int32.toInt64 1) (by decide) ?_
  refine lv_ldc2 (v := 100) hx hb hown (hts _ (zz_m 1 rfl)) dX7_hours_3 ?_
  refine zz_vl (v := Int32.toInt64 100) (by decide) ?_
  refine zz_ci (WC := []) (TC := []) (WR := [(mo, .inr (7, [.ref ms, .ref mi, .ref ma, .int 0, .ref mts, .ref mtz, .ref mtn, .ref mh, .ref mhn, .ref mhw, .ref mhz, .ref mhr, .ref mcl, .ref mtp, .int 0, .int 0, .int 0, .int 0, .int 0, .int 0, .int 0, .int 0, .int 0, .int 0, .int 0, .ref mna, .ref mpi, .ref mca, .ref mwa, .int 0, .ref mrd])), (ms, .inl (kms, 3047, .inl f))]) (TR := [(kms, .int)]) (k := 0) (n := 0) Z [] [0, 1] [] [0] rfl rfl (by decide +kernel) (by decide +kernel) (by decide +kernel) rfl rfl (fun Zc => va_runS (As := [.long (Int32.toInt64 n), .long (Int32.toInt64 1), .long (Int32.toInt64 100)]) (rest := []) X (c_isIn l D n 1 100 s.heap.size) (va_cwS 3 hts gX7_hours_X7_isIn rfl rfl rfl zh_X7_isIn ⟨Nat.le_of_ble_eq_true rfl, Nat.le_of_ble_eq_true rfl⟩) (zz_pS Zc) rfl rfl hl.1 rfl (lv_room (Nat.le_of_ble_eq_true rfl)) dX7_hours_6 ⟨Nat.le_of_ble_eq_true rfl, Nat.le_of_ble_eq_true rfl⟩) rfl rfl (fun r3 u1 H1 locs2 hw2 Z3 => ?_)
  clear Z
  subst r3
  have Z4 : zz_S D A s [(mo, .inr (7, [.ref ms, .ref mi, .ref ma, .int 0, .ref mts, .ref mtz, .ref mtn, .ref mh, .ref mhn, .ref mhw, .ref mhz, .ref mhr, .ref mcl, .ref mtp, .int 0, .int 0, .int 0, .int 0, .int 0, .int 0, .int 0, .int 0, .int 0, .int 0, .int 0, .ref mna, .ref mpi, .ref mca, .ref mwa, .int 0, .ref mrd])), (ms, .inl (kms, 3047, .inl f))] [(kms, .int)] H1 locs2 := Z3
  clear Z3
  by_cases w4 : 1 ≤ n ∧ n ≤ 100
  · obtain ⟨N, ⟨hN1, hN⟩, eN⟩ := zz_rng1 100 w4 (by decide)
    subst eN
    refine zz_v (v := 1) (zz_wiT w4) ?_
    refine lv_if_ne (tgt := 15) hx hb dX7_hours_9 (by decide) (fun _ => ?_) (fun h => absurd h (by decide))
    refine lv_aload_n hx hb dX7_hours_15 rfl (lv_at hl 0 rfl) ?_
    refine zz_get X Z4 0 rfl rfl (fun w h => List.mem_cons_of_mem _ (List.mem_append_right _ h)) 0 rfl (zz_m 3 rfl) rfl dX7_hours_16 ?_
    refine lv_iconst (v := 4) hx hb dX7_hours_19 (by decide) ?_
    refine zz_ild X Z4 1 0 rfl rfl (zz_in 4 3047 rfl) dX7_hours_20 ?_
    refine zz_v (v := 0) af_4 ?_
    refine lv_istore_n (lv' := [(2, .int 0), (0, .ref mo), (1, .int (nI N))]) hx hb dX7_hours_21 rfl hl (by decide) rfl (fun ls5 hl6 => ?_)
    clear hl
    refine lv_iconst (v := 0) hx hb dX7_hours_22 (by decide) ?_
    refine lv_istore_n (lv' := [(3, .int 0), (2, .int 0), (0, .ref mo), (1, .int (nI N))]) hx hb dX7_hours_23 rfl hl6 (by decide) rfl (fun ls7 hl8 => ?_)
    clear hl6
    have loop : ∀ (k i : Nat) (vf : (Nat → Int32)) (v7 : Int32) (v5 : Int32) (v6 : Int32), i + k = N → (vf 0 = 0 ∧ vf 1 = 0 ∧ vf 2 = nI i ∧ vf 3 = 0 ∧ vf 4 = 0 ∧ vf 5 = v5 ∧ vf 6 = v6 ∧ vf 7 = v7 ∧ vf 8 = 3 ∧ vf 9 = 10 ∧ vf 10 = 0) → ∀ (Hq : Heap) (Lq : List Loc) (lq : Array Slot), zz_S D A s [(mo, .inr (7, [.ref ms, .ref mi, .ref ma, .int 0, .ref mts, .ref mtz, .ref mtn, .ref mh, .ref mhn, .ref mhw, .ref mhz, .ref mhr, .ref mcl, .ref mtp, .int 0, .int 0, .int 0, .int 0, .int 0, .int 0, .int 0, .int 0, .int 0, .int 0, .int 0, .ref mna, .ref mpi, .ref mca, .ref mwa, .int 0, .ref mrd])), (ms, .inl (kms, 3047, .inl vf))] [(kms, .int)] Hq Lq → lv_has lq 4 [(3, .int (nI i)), (2, .int 0), (0, .ref mo), (1, .int (nI N))] → W p l e (headSpec wsX7_hours { frames := 4, cells := 0, slots := 0, locals := 84 }).room s m (List.toArray [.ref mo, .int (nI N)]) below meth c Hq Lq 0 0 (MQ below (va_Qi (fun (r : Int32) (u : Unit) => r = sp_hours (nI N)) (fun u t => zz_B D A ((fun (u : Unit) => []) u) ((fun (u : Unit) => []) u) t) A) (List.toArray [.ref mo, .int (nI N)]) s 0 0 A) (F0 m 24 lq []) := by
      intro k
      induction k with
      | zero =>
          intro i vf v7 v5 v6 hik hinv H9 locs10 ls11 Z12 hl13
          refine lv_iload_n hx hb dX7_hours_24 rfl (lv_at hl13 0 rfl) ?_
          refine lv_iload_n hx hb dX7_hours_25 rfl (lv_at hl13 3 rfl) ?_
          refine lv_icmp_ge (tgt := 51) hx hb dX7_hours_26 (by decide) (fun _ => ?_) (fun h => absurd (nI_le (a := N) (b := i) (by omega) (by omega)) h)
          refine lv_aload_n hx hb dX7_hours_51 rfl (lv_at hl13 2 rfl) ?_
          refine zz_get X Z12 0 rfl rfl (fun w h => List.mem_cons_of_mem _ (List.mem_append_right _ h)) 0 rfl (zz_m 3 rfl) rfl dX7_hours_52 ?_
          refine lv_iconst (v := 4) hx hb dX7_hours_55 (by decide) ?_
          refine zz_ild X Z12 1 0 rfl rfl (zz_in 4 3047 rfl) dX7_hours_56 ?_
          refine zz_v (v := 0) hinv.2.2.2.2.1 ?_
          refine lv_iload_n hx hb dX7_hours_57 rfl (lv_at hl13 1 rfl) ?_
          refine lv_isub hx hb dX7_hours_58 ?_
          refine zz_v (v := 0) (by decide) ?_
          exact zz_iret X hr hlk Z12 () (if_pos w4).symm [] [] (by decide +kernel) rfl rfl dX7_hours_59
      | succ k ih =>
          intro i vf v7 v5 v6 hik hinv H14 locs15 ls16 Z17 hl18
          refine lv_iload_n hx hb dX7_hours_24 rfl (lv_at hl18 0 rfl) ?_
          refine lv_iload_n hx hb dX7_hours_25 rfl (lv_at hl18 3 rfl) ?_
          refine lv_icmp_ge (tgt := 51) hx hb dX7_hours_26 (by decide) (fun h => absurd h (nI_ge (a := i) (b := N) (by omega) (by omega))) (fun _ => ?_)
          refine lv_aload_n hx hb dX7_hours_29 rfl (lv_at hl18 2 rfl) ?_
          refine zz_get X Z17 0 rfl rfl (fun w h => List.mem_cons_of_mem _ (List.mem_append_right _ h)) 0 rfl (zz_m 3 rfl) rfl dX7_hours_30 ?_
          refine lv_iconst (v := 2) hx hb dX7_hours_33 (by decide) ?_
          refine zz_ild X Z17 1 0 rfl rfl (zz_in 2 3047 rfl) dX7_hours_34 ?_
          refine zz_v (v := nI i) hinv.2.2.1 ?_
          refine lv_sipush (v := 9999) hx hb dX7_hours_35 (by decide) ?_
          refine lv_icmp_ge (tgt := 51) hx hb dX7_hours_38 (by decide) (fun b5 => ?_) (fun b5 => ?_)
          · refine lv_aload_n hx hb dX7_hours_51 rfl (lv_at hl18 2 rfl) ?_
            refine zz_get X Z17 0 rfl rfl (fun w h => List.mem_cons_of_mem _ (List.mem_append_right _ h)) 0 rfl (zz_m 3 rfl) rfl dX7_hours_52 ?_
            refine lv_iconst (v := 4) hx hb dX7_hours_55 (by decide) ?_
            refine zz_ild X Z17 1 0 rfl rfl (zz_in 4 3047 rfl) dX7_hours_56 ?_
            refine zz_v (v := 0) hinv.2.2.2.2.1 ?_
            refine lv_iload_n hx hb dX7_hours_57 rfl (lv_at hl18 1 rfl) ?_
            refine lv_isub hx hb dX7_hours_58 ?_
            refine zz_v (v := 0) (by decide) ?_
            exact zz_iret X hr hlk Z17 () (if_pos w4).symm [] [] (by decide +kernel) rfl rfl dX7_hours_59
          · refine lv_aload_n hx hb dX7_hours_41 rfl (lv_at hl18 2 rfl) ?_
            refine zz_cv (WC := [(mo, .inr (7, [.ref ms, .ref mi, .ref ma, .int 0, .ref mts, .ref mtz, .ref mtn, .ref mh, .ref mhn, .ref mhw, .ref mhz, .ref mhr, .ref mcl, .ref mtp, .int 0, .int 0, .int 0, .int 0, .int 0, .int 0, .int 0, .int 0, .int 0, .int 0, .int 0, .ref mna, .ref mpi, .ref mca, .ref mwa, .int 0, .ref mrd])), (ms, .inl (kms, 3047, .inl vf))]) (TC := [(kms, .int)]) (WR := []) (TR := []) (k := 0) (n := 0) Z17 [0, 1] [] [0] [] rfl rfl (by decide +kernel) (by decide +kernel) (by decide +kernel) rfl rfl (fun Zc => va_runV (As := []) (rest := []) X (c7_goesOn l D mo ms mi ma mts mtz mtn mh mhn mhw mhz mhr mcl mtp mna mpi mca mwa mrd 0 0 0 0 0 0 0 0 0 0 0 0 0 kms vf 0 (nI i) 0 0 v5 v6 v7 3 10 hinv.1 hinv.2.1 hinv.2.2.1 hinv.2.2.2.1 hinv.2.2.2.2.1 hinv.2.2.2.2.2.1 hinv.2.2.2.2.2.2.1 hinv.2.2.2.2.2.2.2.1 hinv.2.2.2.2.2.2.2.2.1 hinv.2.2.2.2.2.2.2.2.2.1 hinv.2.2.2.2.2.2.2.2.2.2 H14.size) (cwV 0 hts gX7_hours_X7_goesOn rfl rfl rfl ⟨rfl, zh_X7_goesOn⟩ ⟨Nat.le_of_ble_eq_true rfl, Nat.le_of_ble_eq_true rfl⟩) (zz_pV (ci := 7) Zc 0 rfl rfl) rfl rfl hl18.1 rfl (lv_room (Nat.le_of_ble_eq_true rfl)) dX7_hours_42 ⟨Nat.le_of_ble_eq_true rfl, Nat.le_of_ble_eq_true rfl⟩) rfl rfl (fun u6 H19 locs20 hw7 Z21 => ?_)
            clear Z17
            obtain ⟨f99, F910, T911, Z912⟩ := u6
            try dsimp only at hw7 Z21
            obtain ⟨⟨p13, p14, p15, p16, p17, p18, p19, p20, p21, p22, p23⟩, hx24⟩ := hw7
            obtain ⟨rfl, rfl, rfl⟩ := hx24
            have Z22 : zz_S D A s [(mo, .inr (7, [.ref ms, .ref mi, .ref ma, .int 0, .ref mts, .ref mtz, .ref mtn, .ref mh, .ref mhn, .ref mhw, .ref mhz, .ref mhr, .ref mcl, .ref mtp, .int 0, .int 0, .int 0, .int 0, .int 0, .int 0, .int 0, .int 0, .int 0, .int 0, .int 0, .ref mna, .ref mpi, .ref mca, .ref mwa, .int 0, .ref mrd])), (ms, .inl (kms, 3047, .inl f99))] [(kms, .int)] H19 locs20 := Z21
            clear Z21
            refine lv_iinc (v := nI (i + 1)) (lv' := [(3, .int (nI (i + 1))), (2, .int 0), (0, .ref mo), (1, .int (nI N))]) hx hb dX7_hours_45 hl18 (k := 0) rfl (nI_1 i) (by decide) rfl (fun ls23 hl24 => ?_)
            clear hl18
            refine lv_goto (tgt := 24) hx hb dX7_hours_48 (by decide) ?_
            exact ih (i + 1) f99 (zz_mF v7 0 v6 3 10) (zz_bT v5 v6 10) (zz_bZ v6 10) (by omega) ⟨p13, p14, (p15.trans (nI_1 i)), p16, p17, p18, p19, p20, p21, p22, p23⟩ _ _ _ Z22 (lv_sub hl24 [0, 1, 2, 3] rfl)
    exact loop N 0 f 0 0 1 (by omega) ⟨af_0, af_1, af_2, af_3, af_4, af_5, af_6, af_7, af_8, af_9, af_10⟩ _ _ _ Z4 hl8
  · refine zz_v (v := 0) (zz_wiF w4) ?_
    refine lv_if_ne (tgt := 15) hx hb dX7_hours_9 (by decide) (fun h => absurd (by decide) h) (fun _ => ?_)
    refine lv_ldc (v := (-1000000001)) hx hb hown (hts _ (zz_m 2 rfl)) dX7_hours_12 ?_
    exact zz_iret X hr hlk Z4 () (if_neg w4).symm [] [] (by decide +kernel) rfl rfl dX7_hours_14

set_option maxHeartbeats 4000000 in
set_option maxRecDepth 100000 in
theorem c7_behind (l : Launch) (D : va_G) (mo : Nat) (ms : Nat) (mi : Nat) (ma : Nat) (mts : Nat) (mtz : Nat) (mtn : Nat) (mh : Nat) (mhn : Nat) (mhw : Nat) (mhz : Nat) (mhr : Nat) (mcl : Nat) (mtp : Nat) (mna : Nat) (mpi : Nat) (mca : Nat) (mwa : Nat) (mrd : Nat) (kms : ClassId) (f : (Nat → Int32)) (kcl : ClassId) (cf : (Nat → Int32)) (n : Int32) (what : Int32) (af_0 : f 0 = 0) (af_1 : f 1 = 0) (af_2 : f 2 = 0) (af_3 : f 3 = 0) (af_4 : f 4 = 0) (af_5 : f 5 = 0) (af_6 : f 6 = 1) (af_7 : f 7 = 0) (af_8 : f 8 = 3) (af_9 : f 9 = 10) (af_10 : f 10 = 0) : zz_MI l yX7_behind wsX7_behind 5 106 0 0 D [.ref mo, .int n, .int what] [(mo, .inr (7, [.ref ms, .ref mi, .ref ma, .int 0, .ref mts, .ref mtz, .ref mtn, .ref mh, .ref mhn, .ref mhw, .ref mhz, .ref mhr, .ref mcl, .ref mtp, .int 0, .int 0, .int 0, .int 0, .int 0, .int 0, .int 0, .int 0, .int 0, .int 0, .int 0, .ref mna, .ref mpi, .ref mca, .ref mwa, .int 0, .ref mrd])), (ms, .inl (kms, 3047, .inl f)), (mcl, .inl (kcl, 47, .inl cf))] [(kms, .int), (kcl, .int)] (fun (r : Int32) (u : Unit) => r = sp_behind n what) (fun (u : Unit) => []) (fun (u : Unit) => []) := by
  intro sz
  refine Met.ofW (cc := cX7_behind) (maxL := 4) (ret := (some .int)) (by decide) rfl ?_
  intro p e s m args below meth c s₁ B hml hv
  obtain ⟨rfl, hC⟩ := hv
  have hx := B.exec
  have hb := B.bytes
  have hr := B.returns
  have hts := atoms_spec (ws := wsX7_behind) B.pre
  have hown : s.vm.findClass RX7 = some m.cls := findClass_of_methodNamed B.named
  have hlk := B.notSynchronized
  have X : CallFix p m c cX7_behind 4 s _ wsX7_behind RX7 := ⟨hx, hb, hml, hown, hts⟩
  have Z := zz_enter hC
  generalize va_A [(mo, .inr (7, [.ref ms, .ref mi, .ref ma, .int 0, .ref mts, .ref mtz, .ref mtn, .ref mh, .ref mhn, .ref mhw, .ref mhz, .ref mhr, .ref mcl, .ref mtp, .int 0, .int 0, .int 0, .int 0, .int 0, .int 0, .int 0, .int 0, .int 0, .int 0, .int 0, .ref mna, .ref mpi, .ref mca, .ref mwa, .int 0, .ref mrd])), (ms, .inl (kms, 3047, .inl f)), (mcl, .inl (kcl, 47, .inl cf))] sz = A at Z ⊢
  have hl := lv_entry ([.ref mo, .int n, .int what]) (n := 4) (Nat.le_of_ble_eq_true rfl)
  rw [lg_entry_eq]
  generalize (lg_sl ([.ref mo, .int n, .int what]) ++ List.replicate (4 - (lg_sl ([.ref mo, .int n, .int what])).length) Slot.unset).toArray = ls at hl ⊢
  have hl : lv_has ls 4 [(0, .ref mo), (1, .int n), (2, .int what)] := hl
  refine lv_iload_n hx hb dX7_behind_0 rfl (lv_at hl 1 rfl) ?_
  refine lv_i2l (v := Int32.toInt64 n) hx hb dX7_behind_1 rfl ?_
  refine lv_lconst (v := 0) hx hb dX7_behind_2 (by decide) ?_
  refine zz_vl (v := Int32.toInt64 0) (by decide) ?_
  refine lv_ldc2 (v := 100) hx hb hown (hts _ (zz_m 1 rfl)) dX7_behind_3 ?_
  refine zz_vl (v := Int32.toInt64 100) (by decide) ?_
  refine zz_ci (WC := []) (TC := []) (WR := [(mo, .inr (7, [.ref ms, .ref mi, .ref ma, .int 0, .ref mts, .ref mtz, .ref mtn, .ref mh, .ref mhn, .ref mhw, .ref mhz, .ref mhr, .ref mcl, .ref mtp, .int 0, .int 0, .int 0, .int 0, .int 0, .int 0, .int 0, .int 0, .int 0, .int 0, .int 0, .ref mna, .ref mpi, .ref mca, .ref mwa, .int 0, .ref mrd])), (ms, .inl (kms, 3047, .inl f)), (mcl, .inl (kcl, 47, .inl cf))]) (TR := [(kms, .int), (kcl, .int)]) (k := 0) (n := 0) Z [] [0, 1, 2] [] [0, 1] rfl rfl (by decide +kernel) (by decide +kernel) (by decide +kernel) rfl rfl (fun Zc => va_runS (As := [.long (Int32.toInt64 n), .long (Int32.toInt64 0), .long (Int32.toInt64 100)]) (rest := []) X (c_isIn l D n 0 100 s.heap.size) (va_cwS 3 hts gX7_behind_X7_isIn rfl rfl rfl zh_X7_isIn ⟨Nat.le_of_ble_eq_true rfl, Nat.le_of_ble_eq_true rfl⟩) (zz_pS Zc) rfl rfl hl.1 rfl (lv_room (Nat.le_of_ble_eq_true rfl)) dX7_behind_6 ⟨Nat.le_of_ble_eq_true rfl, Nat.le_of_ble_eq_true rfl⟩) rfl rfl (fun r3 u1 H1 locs2 hw2 Z3 => ?_)
  clear Z
  subst r3
  have Z4 : zz_S D A s [(mo, .inr (7, [.ref ms, .ref mi, .ref ma, .int 0, .ref mts, .ref mtz, .ref mtn, .ref mh, .ref mhn, .ref mhw, .ref mhz, .ref mhr, .ref mcl, .ref mtp, .int 0, .int 0, .int 0, .int 0, .int 0, .int 0, .int 0, .int 0, .int 0, .int 0, .int 0, .ref mna, .ref mpi, .ref mca, .ref mwa, .int 0, .ref mrd])), (ms, .inl (kms, 3047, .inl f)), (mcl, .inl (kcl, 47, .inl cf))] [(kms, .int), (kcl, .int)] H1 locs2 := Z3
  clear Z3
  by_cases w4 : 0 ≤ n ∧ n ≤ 100
  · obtain ⟨N, hN, eN⟩ := zz_rng 100 w4 (by decide)
    subst eN
    refine zz_v (v := 1) (zz_wiT w4) ?_
    refine lv_if_eq (tgt := 24) hx hb dX7_behind_9 (by decide) (fun h => absurd h (by decide)) (fun _ => ?_)
    refine lv_iload_n hx hb dX7_behind_12 rfl (lv_at hl 2 rfl) ?_
    refine lv_i2l (v := Int32.toInt64 what) hx hb dX7_behind_13 rfl ?_
    refine lv_lconst (v := 0) hx hb dX7_behind_14 (by decide) ?_
    refine zz_vl (v := Int32.toInt64 0) (by decide) ?_
    refine lv_ldc2 (v := 3) hx hb hown (hts _ (zz_m 2 rfl)) dX7_behind_15 ?_
    refine zz_vl (v := Int32.toInt64 3) (by decide) ?_
    refine zz_ci (WC := []) (TC := []) (WR := [(mo, .inr (7, [.ref ms, .ref mi, .ref ma, .int 0, .ref mts, .ref mtz, .ref mtn, .ref mh, .ref mhn, .ref mhw, .ref mhz, .ref mhr, .ref mcl, .ref mtp, .int 0, .int 0, .int 0, .int 0, .int 0, .int 0, .int 0, .int 0, .int 0, .int 0, .int 0, .ref mna, .ref mpi, .ref mca, .ref mwa, .int 0, .ref mrd])), (ms, .inl (kms, 3047, .inl f)), (mcl, .inl (kcl, 47, .inl cf))]) (TR := [(kms, .int), (kcl, .int)]) (k := 0) (n := 0) Z4 [] [0, 1, 2] [] [0, 1] rfl rfl (by decide +kernel) (by decide +kernel) (by decide +kernel) rfl rfl (fun Zc => va_runS (As := [.long (Int32.toInt64 what), .long (Int32.toInt64 0), .long (Int32.toInt64 3)]) (rest := []) X (c_isIn l D what 0 3 H1.size) (va_cwS 3 hts gX7_behind_X7_isIn rfl rfl rfl zh_X7_isIn ⟨Nat.le_of_ble_eq_true rfl, Nat.le_of_ble_eq_true rfl⟩) (zz_pS Zc) rfl rfl hl.1 rfl (lv_room (Nat.le_of_ble_eq_true rfl)) dX7_behind_18 ⟨Nat.le_of_ble_eq_true rfl, Nat.le_of_ble_eq_true rfl⟩) rfl rfl (fun r7 u5 H5 locs6 hw6 Z7 => ?_)
    clear Z4
    subst r7
    have Z8 : zz_S D A s [(mo, .inr (7, [.ref ms, .ref mi, .ref ma, .int 0, .ref mts, .ref mtz, .ref mtn, .ref mh, .ref mhn, .ref mhw, .ref mhz, .ref mhr, .ref mcl, .ref mtp, .int 0, .int 0, .int 0, .int 0, .int 0, .int 0, .int 0, .int 0, .int 0, .int 0, .int 0, .ref mna, .ref mpi, .ref mca, .ref mwa, .int 0, .ref mrd])), (ms, .inl (kms, 3047, .inl f)), (mcl, .inl (kcl, 47, .inl cf))] [(kms, .int), (kcl, .int)] H5 locs6 := Z7
    clear Z7
    by_cases w8 : 0 ≤ what ∧ what ≤ 3
    · obtain ⟨j, hj, e9⟩ := zz_rng 3 w8 (by decide)
      rcases (show j = 0 ∨ j = 1 ∨ j = 2 ∨ j = 3 by omega) with rfl | rfl | rfl | rfl
      · have e9 : what = 0 := e9
        subst e9
        refine zz_v (v := 1) (by decide) ?_
        refine lv_if_ne (tgt := 27) hx hb dX7_behind_21 (by decide) (fun _ => ?_) (fun h => absurd h (by decide))
        refine lv_aload_n hx hb dX7_behind_27 rfl (lv_at hl 0 rfl) ?_
        refine zz_cv (WC := [(mo, .inr (7, [.ref ms, .ref mi, .ref ma, .int 0, .ref mts, .ref mtz, .ref mtn, .ref mh, .ref mhn, .ref mhw, .ref mhz, .ref mhr, .ref mcl, .ref mtp, .int 0, .int 0, .int 0, .int 0, .int 0, .int 0, .int 0, .int 0, .int 0, .int 0, .int 0, .ref mna, .ref mpi, .ref mca, .ref mwa, .int 0, .ref mrd])), (ms, .inl (kms, 3047, .inl f)), (mcl, .inl (kcl, 47, .inl cf))]) (TC := [(kms, .int), (kcl, .int)]) (WR := []) (TR := []) (k := 0) (n := 0) Z8 [0, 1, 2] [] [0, 1] [] rfl rfl (by decide +kernel) (by decide +kernel) (by decide +kernel) rfl rfl (fun Zc => va_runV (As := []) (rest := []) X (c7_laysBy l D mo ms mi ma mts mtz mtn mh mhn mhw mhz mhr mcl mtp mna mpi mca mwa mrd 0 0 0 0 0 0 0 0 0 0 0 0 0 kms f kcl cf H5.size) (cwV 0 hts gX7_behind_X7_laysBy rfl rfl rfl ⟨rfl, zh_X7_laysBy⟩ ⟨Nat.le_of_ble_eq_true rfl, Nat.le_of_ble_eq_true rfl⟩) (zz_pV (ci := 7) Zc 0 rfl rfl) rfl rfl hl.1 rfl (lv_room (Nat.le_of_ble_eq_true rfl)) dX7_behind_28 ⟨Nat.le_of_ble_eq_true rfl, Nat.le_of_ble_eq_true rfl⟩) rfl rfl (fun u10 H9 locs10 hw11 Z11 => ?_)
        clear Z8
        obtain ⟨c913, rfl⟩ : ∃ z, z = u10 := ⟨_, rfl⟩
        try dsimp only at hw11 Z11
        have Z12 : zz_S D A s [(mo, .inr (7, [.ref ms, .ref mi, .ref ma, .int 0, .ref mts, .ref mtz, .ref mtn, .ref mh, .ref mhn, .ref mhw, .ref mhz, .ref mhr, .ref mcl, .ref mtp, .int 0, .int 0, .int 0, .int 0, .int 0, .int 0, .int 0, .int 0, .int 0, .int 0, .int 0, .ref mna, .ref mpi, .ref mca, .ref mwa, .int 0, .ref mrd])), (ms, .inl (kms, 3047, .inl f)), (mcl, .inl (kcl, 47, .inl c913))] [(kms, .int), (kcl, .int)] H9 locs10 := Z11
        clear Z11
        refine lv_aload_n hx hb dX7_behind_31 rfl (lv_at hl 0 rfl) ?_
        refine lv_iload_n hx hb dX7_behind_32 rfl (lv_at hl 1 rfl) ?_
        refine zz_cv (WC := [(mo, .inr (7, [.ref ms, .ref mi, .ref ma, .int 0, .ref mts, .ref mtz, .ref mtn, .ref mh, .ref mhn, .ref mhw, .ref mhz, .ref mhr, .ref mcl, .ref mtp, .int 0, .int 0, .int 0, .int 0, .int 0, .int 0, .int 0, .int 0, .int 0, .int 0, .int 0, .ref mna, .ref mpi, .ref mca, .ref mwa, .int 0, .ref mrd])), (ms, .inl (kms, 3047, .inl f))]) (TC := [(kms, .int)]) (WR := [(mcl, .inl (kcl, 47, .inl c913))]) (TR := [(kcl, .int)]) (k := 0) (n := 0) Z12 [0, 1] [2] [0] [1] rfl rfl (by decide +kernel) (by decide +kernel) (by decide +kernel) rfl rfl (fun Zc => va_runV (As := [.int (nI N)]) (rest := []) X (c7_many l D mo ms mi ma mts mtz mtn mh mhn mhw mhz mhr mcl mtp mna mpi mca mwa mrd 0 0 0 0 0 0 0 0 0 0 0 0 0 kms f 0 0 0 0 0 1 0 3 10 N af_0 af_1 af_2 af_3 af_4 af_5 af_6 af_7 af_8 af_9 af_10 (by omega) H9.size) (cwV 1 hts gX7_behind_X7_goesOnMany rfl rfl rfl ⟨rfl, zh_X7_goesOnMany⟩ ⟨Nat.le_of_ble_eq_true rfl, Nat.le_of_ble_eq_true rfl⟩) (zz_pV (ci := 7) Zc 0 rfl rfl) rfl rfl hl.1 rfl (lv_room (Nat.le_of_ble_eq_true rfl)) dX7_behind_33 ⟨Nat.le_of_ble_eq_true rfl, Nat.le_of_ble_eq_true rfl⟩) rfl rfl (fun u14 H13 locs14 hw15 Z15 => ?_)
        clear Z12
        obtain ⟨f917, F918, T919, Z920, H921⟩ := u14
        try dsimp only at hw15 Z15
        obtain ⟨⟨p22, p23, p24, p25, p26, p27, p28, p29, p30, p31, p32⟩, hx33⟩ := hw15
        have Z16 : zz_S D A s [(mcl, .inl (kcl, 47, .inl c913)), (mo, .inr (7, [.ref ms, .ref mi, .ref ma, .int 0, .ref mts, .ref mtz, .ref mtn, .ref mh, .ref mhn, .ref mhw, .ref mhz, .ref mhr, .ref mcl, .ref mtp, .int 0, .int 0, .int 0, .int 0, .int 0, .int 0, .int 0, .int 0, .int 0, .int 0, .int 0, .ref mna, .ref mpi, .ref mca, .ref mwa, .int 0, .ref mrd])), (ms, .inl (kms, 3047, .inl f917))] [(kcl, .int), (kms, .int)] H13 locs14 := Z15
        clear Z15
        refine lv_iload_n hx hb dX7_behind_36 rfl (lv_at hl 2 rfl) ?_
        refine lv_if_ne (tgt := 49) hx hb dX7_behind_37 (by decide) (fun h => absurd (by decide) h) (fun _ => ?_)
        refine lv_aload_n hx hb dX7_behind_40 rfl (lv_at hl 0 rfl) ?_
        refine zz_get X Z16 1 rfl rfl (fun w h => List.mem_cons_of_mem _ (List.mem_append_right _ h)) 0 rfl (zz_m 4 rfl) rfl dX7_behind_41 ?_
        refine lv_iconst (v := 4) hx hb dX7_behind_44 (by decide) ?_
        refine zz_ild X Z16 2 1 rfl rfl (zz_in 4 3047 rfl) dX7_behind_45 ?_
        refine zz_v (v := 0) p26 ?_
        refine lv_goto (tgt := 84) hx hb dX7_behind_46 (by decide) ?_
        refine lv_istore_n (lv' := [(3, .int 0), (0, .ref mo), (1, .int (nI N)), (2, .int 0)]) hx hb dX7_behind_84 rfl hl (by decide) rfl (fun ls17 hl18 => ?_)
        clear hl
        refine lv_aload_n hx hb dX7_behind_85 rfl (lv_at hl18 1 rfl) ?_
        refine zz_cv (WC := [(mo, .inr (7, [.ref ms, .ref mi, .ref ma, .int 0, .ref mts, .ref mtz, .ref mtn, .ref mh, .ref mhn, .ref mhw, .ref mhz, .ref mhr, .ref mcl, .ref mtp, .int 0, .int 0, .int 0, .int 0, .int 0, .int 0, .int 0, .int 0, .int 0, .int 0, .int 0, .ref mna, .ref mpi, .ref mca, .ref mwa, .int 0, .ref mrd])), (ms, .inl (kms, 3047, .inl f917)), (mcl, .inl (kcl, 47, .inl c913))]) (TC := [(kms, .int), (kcl, .int)]) (WR := []) (TR := []) (k := 0) (n := 0) Z16 [1, 2, 0] [] [1, 0] [] rfl rfl (by decide +kernel) (by decide +kernel) (by decide +kernel) rfl rfl (fun Zc => va_runV (As := []) (rest := []) X (c7_laysBack l D mo ms mi ma mts mtz mtn mh mhn mhw mhz mhr mcl mtp mna mpi mca mwa mrd 0 0 0 0 0 0 0 0 0 0 0 0 0 kms f917 kcl c913 H13.size) (cwV 0 hts gX7_behind_X7_laysBack rfl rfl rfl ⟨rfl, zh_X7_laysBack⟩ ⟨Nat.le_of_ble_eq_true rfl, Nat.le_of_ble_eq_true rfl⟩) (zz_pV (ci := 7) Zc 0 rfl rfl) rfl rfl hl18.1 rfl (lv_room (Nat.le_of_ble_eq_true rfl)) dX7_behind_86 ⟨Nat.le_of_ble_eq_true rfl, Nat.le_of_ble_eq_true rfl⟩) rfl rfl (fun u34 H19 locs20 hw35 Z21 => ?_)
        clear Z16
        obtain ⟨f937, rfl⟩ : ∃ z, z = u34 := ⟨_, rfl⟩
        try dsimp only at hw35 Z21
        have Z22 : zz_S D A s [(mo, .inr (7, [.ref ms, .ref mi, .ref ma, .int 0, .ref mts, .ref mtz, .ref mtn, .ref mh, .ref mhn, .ref mhw, .ref mhz, .ref mhr, .ref mcl, .ref mtp, .int 0, .int 0, .int 0, .int 0, .int 0, .int 0, .int 0, .int 0, .int 0, .int 0, .int 0, .ref mna, .ref mpi, .ref mca, .ref mwa, .int 0, .ref mrd])), (ms, .inl (kms, 3047, .inl f937)), (mcl, .inl (kcl, 47, .inl c913))] [(kms, .int), (kcl, .int)] H19 locs20 := Z21
        clear Z21
        refine lv_iload_n hx hb dX7_behind_89 rfl (lv_at hl18 0 rfl) ?_
        exact zz_iret X hr hlk Z22 () (sp_behind0 w4) [] [] (by decide +kernel) rfl rfl dX7_behind_90
      · have e9 : what = 1 := e9
        subst e9
        refine zz_v (v := 1) (by decide) ?_
        refine lv_if_ne (tgt := 27) hx hb dX7_behind_21 (by decide) (fun _ => ?_) (fun h => absurd h (by decide))
        refine lv_aload_n hx hb dX7_behind_27 rfl (lv_at hl 0 rfl) ?_
        refine zz_cv (WC := [(mo, .inr (7, [.ref ms, .ref mi, .ref ma, .int 0, .ref mts, .ref mtz, .ref mtn, .ref mh, .ref mhn, .ref mhw, .ref mhz, .ref mhr, .ref mcl, .ref mtp, .int 0, .int 0, .int 0, .int 0, .int 0, .int 0, .int 0, .int 0, .int 0, .int 0, .int 0, .ref mna, .ref mpi, .ref mca, .ref mwa, .int 0, .ref mrd])), (ms, .inl (kms, 3047, .inl f)), (mcl, .inl (kcl, 47, .inl cf))]) (TC := [(kms, .int), (kcl, .int)]) (WR := []) (TR := []) (k := 0) (n := 0) Z8 [0, 1, 2] [] [0, 1] [] rfl rfl (by decide +kernel) (by decide +kernel) (by decide +kernel) rfl rfl (fun Zc => va_runV (As := []) (rest := []) X (c7_laysBy l D mo ms mi ma mts mtz mtn mh mhn mhw mhz mhr mcl mtp mna mpi mca mwa mrd 0 0 0 0 0 0 0 0 0 0 0 0 0 kms f kcl cf H5.size) (cwV 0 hts gX7_behind_X7_laysBy rfl rfl rfl ⟨rfl, zh_X7_laysBy⟩ ⟨Nat.le_of_ble_eq_true rfl, Nat.le_of_ble_eq_true rfl⟩) (zz_pV (ci := 7) Zc 0 rfl rfl) rfl rfl hl.1 rfl (lv_room (Nat.le_of_ble_eq_true rfl)) dX7_behind_28 ⟨Nat.le_of_ble_eq_true rfl, Nat.le_of_ble_eq_true rfl⟩) rfl rfl (fun u38 H23 locs24 hw39 Z25 => ?_)
        clear Z8
        obtain ⟨c941, rfl⟩ : ∃ z, z = u38 := ⟨_, rfl⟩
        try dsimp only at hw39 Z25
        have Z26 : zz_S D A s [(mo, .inr (7, [.ref ms, .ref mi, .ref ma, .int 0, .ref mts, .ref mtz, .ref mtn, .ref mh, .ref mhn, .ref mhw, .ref mhz, .ref mhr, .ref mcl, .ref mtp, .int 0, .int 0, .int 0, .int 0, .int 0, .int 0, .int 0, .int 0, .int 0, .int 0, .int 0, .ref mna, .ref mpi, .ref mca, .ref mwa, .int 0, .ref mrd])), (ms, .inl (kms, 3047, .inl f)), (mcl, .inl (kcl, 47, .inl c941))] [(kms, .int), (kcl, .int)] H23 locs24 := Z25
        clear Z25
        refine lv_aload_n hx hb dX7_behind_31 rfl (lv_at hl 0 rfl) ?_
        refine lv_iload_n hx hb dX7_behind_32 rfl (lv_at hl 1 rfl) ?_
        refine zz_cv (WC := [(mo, .inr (7, [.ref ms, .ref mi, .ref ma, .int 0, .ref mts, .ref mtz, .ref mtn, .ref mh, .ref mhn, .ref mhw, .ref mhz, .ref mhr, .ref mcl, .ref mtp, .int 0, .int 0, .int 0, .int 0, .int 0, .int 0, .int 0, .int 0, .int 0, .int 0, .int 0, .ref mna, .ref mpi, .ref mca, .ref mwa, .int 0, .ref mrd])), (ms, .inl (kms, 3047, .inl f))]) (TC := [(kms, .int)]) (WR := [(mcl, .inl (kcl, 47, .inl c941))]) (TR := [(kcl, .int)]) (k := 0) (n := 0) Z26 [0, 1] [2] [0] [1] rfl rfl (by decide +kernel) (by decide +kernel) (by decide +kernel) rfl rfl (fun Zc => va_runV (As := [.int (nI N)]) (rest := []) X (c7_many l D mo ms mi ma mts mtz mtn mh mhn mhw mhz mhr mcl mtp mna mpi mca mwa mrd 0 0 0 0 0 0 0 0 0 0 0 0 0 kms f 0 0 0 0 0 1 0 3 10 N af_0 af_1 af_2 af_3 af_4 af_5 af_6 af_7 af_8 af_9 af_10 (by omega) H23.size) (cwV 1 hts gX7_behind_X7_goesOnMany rfl rfl rfl ⟨rfl, zh_X7_goesOnMany⟩ ⟨Nat.le_of_ble_eq_true rfl, Nat.le_of_ble_eq_true rfl⟩) (zz_pV (ci := 7) Zc 0 rfl rfl) rfl rfl hl.1 rfl (lv_room (Nat.le_of_ble_eq_true rfl)) dX7_behind_33 ⟨Nat.le_of_ble_eq_true rfl, Nat.le_of_ble_eq_true rfl⟩) rfl rfl (fun u42 H27 locs28 hw43 Z29 => ?_)
        clear Z26
        obtain ⟨f945, F946, T947, Z948, H949⟩ := u42
        try dsimp only at hw43 Z29
        obtain ⟨⟨p50, p51, p52, p53, p54, p55, p56, p57, p58, p59, p60⟩, hx61⟩ := hw43
        have Z30 : zz_S D A s [(mcl, .inl (kcl, 47, .inl c941)), (mo, .inr (7, [.ref ms, .ref mi, .ref ma, .int 0, .ref mts, .ref mtz, .ref mtn, .ref mh, .ref mhn, .ref mhw, .ref mhz, .ref mhr, .ref mcl, .ref mtp, .int 0, .int 0, .int 0, .int 0, .int 0, .int 0, .int 0, .int 0, .int 0, .int 0, .int 0, .ref mna, .ref mpi, .ref mca, .ref mwa, .int 0, .ref mrd])), (ms, .inl (kms, 3047, .inl f945))] [(kcl, .int), (kms, .int)] H27 locs28 := Z29
        clear Z29
        refine lv_iload_n hx hb dX7_behind_36 rfl (lv_at hl 2 rfl) ?_
        refine lv_if_ne (tgt := 49) hx hb dX7_behind_37 (by decide) (fun _ => ?_) (fun h => absurd h (by decide))
        refine lv_iload_n hx hb dX7_behind_49 rfl (lv_at hl 2 rfl) ?_
        refine lv_iconst (v := 1) hx hb dX7_behind_50 (by decide) ?_
        refine lv_icmp_ne (tgt := 63) hx hb dX7_behind_51 (by decide) (fun h => absurd (by decide) h) (fun _ => ?_)
        refine lv_aload_n hx hb dX7_behind_54 rfl (lv_at hl 0 rfl) ?_
        refine zz_get X Z30 1 rfl rfl (fun w h => List.mem_cons_of_mem _ (List.mem_append_right _ h)) 0 rfl (zz_m 4 rfl) rfl dX7_behind_55 ?_
        refine lv_iconst (v := 3) hx hb dX7_behind_58 (by decide) ?_
        refine zz_ild X Z30 2 1 rfl rfl (zz_in 3 3047 rfl) dX7_behind_59 ?_
        refine zz_v (v := 0) p53 ?_
        refine lv_goto (tgt := 84) hx hb dX7_behind_60 (by decide) ?_
        refine lv_istore_n (lv' := [(3, .int 0), (0, .ref mo), (1, .int (nI N)), (2, .int 1)]) hx hb dX7_behind_84 rfl hl (by decide) rfl (fun ls31 hl32 => ?_)
        clear hl
        refine lv_aload_n hx hb dX7_behind_85 rfl (lv_at hl32 1 rfl) ?_
        refine zz_cv (WC := [(mo, .inr (7, [.ref ms, .ref mi, .ref ma, .int 0, .ref mts, .ref mtz, .ref mtn, .ref mh, .ref mhn, .ref mhw, .ref mhz, .ref mhr, .ref mcl, .ref mtp, .int 0, .int 0, .int 0, .int 0, .int 0, .int 0, .int 0, .int 0, .int 0, .int 0, .int 0, .ref mna, .ref mpi, .ref mca, .ref mwa, .int 0, .ref mrd])), (ms, .inl (kms, 3047, .inl f945)), (mcl, .inl (kcl, 47, .inl c941))]) (TC := [(kms, .int), (kcl, .int)]) (WR := []) (TR := []) (k := 0) (n := 0) Z30 [1, 2, 0] [] [1, 0] [] rfl rfl (by decide +kernel) (by decide +kernel) (by decide +kernel) rfl rfl (fun Zc => va_runV (As := []) (rest := []) X (c7_laysBack l D mo ms mi ma mts mtz mtn mh mhn mhw mhz mhr mcl mtp mna mpi mca mwa mrd 0 0 0 0 0 0 0 0 0 0 0 0 0 kms f945 kcl c941 H27.size) (cwV 0 hts gX7_behind_X7_laysBack rfl rfl rfl ⟨rfl, zh_X7_laysBack⟩ ⟨Nat.le_of_ble_eq_true rfl, Nat.le_of_ble_eq_true rfl⟩) (zz_pV (ci := 7) Zc 0 rfl rfl) rfl rfl hl32.1 rfl (lv_room (Nat.le_of_ble_eq_true rfl)) dX7_behind_86 ⟨Nat.le_of_ble_eq_true rfl, Nat.le_of_ble_eq_true rfl⟩) rfl rfl (fun u62 H33 locs34 hw63 Z35 => ?_)
        clear Z30
        obtain ⟨f965, rfl⟩ : ∃ z, z = u62 := ⟨_, rfl⟩
        try dsimp only at hw63 Z35
        have Z36 : zz_S D A s [(mo, .inr (7, [.ref ms, .ref mi, .ref ma, .int 0, .ref mts, .ref mtz, .ref mtn, .ref mh, .ref mhn, .ref mhw, .ref mhz, .ref mhr, .ref mcl, .ref mtp, .int 0, .int 0, .int 0, .int 0, .int 0, .int 0, .int 0, .int 0, .int 0, .int 0, .int 0, .ref mna, .ref mpi, .ref mca, .ref mwa, .int 0, .ref mrd])), (ms, .inl (kms, 3047, .inl f965)), (mcl, .inl (kcl, 47, .inl c941))] [(kms, .int), (kcl, .int)] H33 locs34 := Z35
        clear Z35
        refine lv_iload_n hx hb dX7_behind_89 rfl (lv_at hl32 0 rfl) ?_
        exact zz_iret X hr hlk Z36 () (sp_behind1 w4) [] [] (by decide +kernel) rfl rfl dX7_behind_90
      · have e9 : what = 2 := e9
        subst e9
        refine zz_v (v := 1) (by decide) ?_
        refine lv_if_ne (tgt := 27) hx hb dX7_behind_21 (by decide) (fun _ => ?_) (fun h => absurd h (by decide))
        refine lv_aload_n hx hb dX7_behind_27 rfl (lv_at hl 0 rfl) ?_
        refine zz_cv (WC := [(mo, .inr (7, [.ref ms, .ref mi, .ref ma, .int 0, .ref mts, .ref mtz, .ref mtn, .ref mh, .ref mhn, .ref mhw, .ref mhz, .ref mhr, .ref mcl, .ref mtp, .int 0, .int 0, .int 0, .int 0, .int 0, .int 0, .int 0, .int 0, .int 0, .int 0, .int 0, .ref mna, .ref mpi, .ref mca, .ref mwa, .int 0, .ref mrd])), (ms, .inl (kms, 3047, .inl f)), (mcl, .inl (kcl, 47, .inl cf))]) (TC := [(kms, .int), (kcl, .int)]) (WR := []) (TR := []) (k := 0) (n := 0) Z8 [0, 1, 2] [] [0, 1] [] rfl rfl (by decide +kernel) (by decide +kernel) (by decide +kernel) rfl rfl (fun Zc => va_runV (As := []) (rest := []) X (c7_laysBy l D mo ms mi ma mts mtz mtn mh mhn mhw mhz mhr mcl mtp mna mpi mca mwa mrd 0 0 0 0 0 0 0 0 0 0 0 0 0 kms f kcl cf H5.size) (cwV 0 hts gX7_behind_X7_laysBy rfl rfl rfl ⟨rfl, zh_X7_laysBy⟩ ⟨Nat.le_of_ble_eq_true rfl, Nat.le_of_ble_eq_true rfl⟩) (zz_pV (ci := 7) Zc 0 rfl rfl) rfl rfl hl.1 rfl (lv_room (Nat.le_of_ble_eq_true rfl)) dX7_behind_28 ⟨Nat.le_of_ble_eq_true rfl, Nat.le_of_ble_eq_true rfl⟩) rfl rfl (fun u66 H37 locs38 hw67 Z39 => ?_)
        clear Z8
        obtain ⟨c969, rfl⟩ : ∃ z, z = u66 := ⟨_, rfl⟩
        try dsimp only at hw67 Z39
        have Z40 : zz_S D A s [(mo, .inr (7, [.ref ms, .ref mi, .ref ma, .int 0, .ref mts, .ref mtz, .ref mtn, .ref mh, .ref mhn, .ref mhw, .ref mhz, .ref mhr, .ref mcl, .ref mtp, .int 0, .int 0, .int 0, .int 0, .int 0, .int 0, .int 0, .int 0, .int 0, .int 0, .int 0, .ref mna, .ref mpi, .ref mca, .ref mwa, .int 0, .ref mrd])), (ms, .inl (kms, 3047, .inl f)), (mcl, .inl (kcl, 47, .inl c969))] [(kms, .int), (kcl, .int)] H37 locs38 := Z39
        clear Z39
        refine lv_aload_n hx hb dX7_behind_31 rfl (lv_at hl 0 rfl) ?_
        refine lv_iload_n hx hb dX7_behind_32 rfl (lv_at hl 1 rfl) ?_
        refine zz_cv (WC := [(mo, .inr (7, [.ref ms, .ref mi, .ref ma, .int 0, .ref mts, .ref mtz, .ref mtn, .ref mh, .ref mhn, .ref mhw, .ref mhz, .ref mhr, .ref mcl, .ref mtp, .int 0, .int 0, .int 0, .int 0, .int 0, .int 0, .int 0, .int 0, .int 0, .int 0, .int 0, .ref mna, .ref mpi, .ref mca, .ref mwa, .int 0, .ref mrd])), (ms, .inl (kms, 3047, .inl f))]) (TC := [(kms, .int)]) (WR := [(mcl, .inl (kcl, 47, .inl c969))]) (TR := [(kcl, .int)]) (k := 0) (n := 0) Z40 [0, 1] [2] [0] [1] rfl rfl (by decide +kernel) (by decide +kernel) (by decide +kernel) rfl rfl (fun Zc => va_runV (As := [.int (nI N)]) (rest := []) X (c7_many l D mo ms mi ma mts mtz mtn mh mhn mhw mhz mhr mcl mtp mna mpi mca mwa mrd 0 0 0 0 0 0 0 0 0 0 0 0 0 kms f 0 0 0 0 0 1 0 3 10 N af_0 af_1 af_2 af_3 af_4 af_5 af_6 af_7 af_8 af_9 af_10 (by omega) H37.size) (cwV 1 hts gX7_behind_X7_goesOnMany rfl rfl rfl ⟨rfl, zh_X7_goesOnMany⟩ ⟨Nat.le_of_ble_eq_true rfl, Nat.le_of_ble_eq_true rfl⟩) (zz_pV (ci := 7) Zc 0 rfl rfl) rfl rfl hl.1 rfl (lv_room (Nat.le_of_ble_eq_true rfl)) dX7_behind_33 ⟨Nat.le_of_ble_eq_true rfl, Nat.le_of_ble_eq_true rfl⟩) rfl rfl (fun u70 H41 locs42 hw71 Z43 => ?_)
        clear Z40
        obtain ⟨f973, F974, T975, Z976, H977⟩ := u70
        try dsimp only at hw71 Z43
        obtain ⟨⟨p78, p79, p80, p81, p82, p83, p84, p85, p86, p87, p88⟩, hx89⟩ := hw71
        have Z44 : zz_S D A s [(mcl, .inl (kcl, 47, .inl c969)), (mo, .inr (7, [.ref ms, .ref mi, .ref ma, .int 0, .ref mts, .ref mtz, .ref mtn, .ref mh, .ref mhn, .ref mhw, .ref mhz, .ref mhr, .ref mcl, .ref mtp, .int 0, .int 0, .int 0, .int 0, .int 0, .int 0, .int 0, .int 0, .int 0, .int 0, .int 0, .ref mna, .ref mpi, .ref mca, .ref mwa, .int 0, .ref mrd])), (ms, .inl (kms, 3047, .inl f973))] [(kcl, .int), (kms, .int)] H41 locs42 := Z43
        clear Z43
        refine lv_iload_n hx hb dX7_behind_36 rfl (lv_at hl 2 rfl) ?_
        refine lv_if_ne (tgt := 49) hx hb dX7_behind_37 (by decide) (fun _ => ?_) (fun h => absurd h (by decide))
        refine lv_iload_n hx hb dX7_behind_49 rfl (lv_at hl 2 rfl) ?_
        refine lv_iconst (v := 1) hx hb dX7_behind_50 (by decide) ?_
        refine lv_icmp_ne (tgt := 63) hx hb dX7_behind_51 (by decide) (fun _ => ?_) (fun h => absurd h (by decide))
        refine lv_iload_n hx hb dX7_behind_63 rfl (lv_at hl 2 rfl) ?_
        refine lv_iconst (v := 2) hx hb dX7_behind_64 (by decide) ?_
        refine lv_icmp_ne (tgt := 78) hx hb dX7_behind_65 (by decide) (fun h => absurd (by decide) h) (fun _ => ?_)
        refine lv_aload_n hx hb dX7_behind_68 rfl (lv_at hl 0 rfl) ?_
        refine zz_get X Z44 1 rfl rfl (fun w h => List.mem_cons_of_mem _ (List.mem_append_right _ h)) 0 rfl (zz_m 4 rfl) rfl dX7_behind_69 ?_
        refine lv_bipush (v := 7) hx hb dX7_behind_72 (by decide) ?_
        refine zz_ild X Z44 2 1 rfl rfl (zz_in 7 3047 rfl) dX7_behind_74 ?_
        refine zz_v (v := F974) p85 ?_
        refine lv_goto (tgt := 84) hx hb dX7_behind_75 (by decide) ?_
        refine lv_istore_n (lv' := [(3, .int F974), (0, .ref mo), (1, .int (nI N)), (2, .int 2)]) hx hb dX7_behind_84 rfl hl (by decide) rfl (fun ls45 hl46 => ?_)
        clear hl
        refine lv_aload_n hx hb dX7_behind_85 rfl (lv_at hl46 1 rfl) ?_
        refine zz_cv (WC := [(mo, .inr (7, [.ref ms, .ref mi, .ref ma, .int 0, .ref mts, .ref mtz, .ref mtn, .ref mh, .ref mhn, .ref mhw, .ref mhz, .ref mhr, .ref mcl, .ref mtp, .int 0, .int 0, .int 0, .int 0, .int 0, .int 0, .int 0, .int 0, .int 0, .int 0, .int 0, .ref mna, .ref mpi, .ref mca, .ref mwa, .int 0, .ref mrd])), (ms, .inl (kms, 3047, .inl f973)), (mcl, .inl (kcl, 47, .inl c969))]) (TC := [(kms, .int), (kcl, .int)]) (WR := []) (TR := []) (k := 0) (n := 0) Z44 [1, 2, 0] [] [1, 0] [] rfl rfl (by decide +kernel) (by decide +kernel) (by decide +kernel) rfl rfl (fun Zc => va_runV (As := []) (rest := []) X (c7_laysBack l D mo ms mi ma mts mtz mtn mh mhn mhw mhz mhr mcl mtp mna mpi mca mwa mrd 0 0 0 0 0 0 0 0 0 0 0 0 0 kms f973 kcl c969 H41.size) (cwV 0 hts gX7_behind_X7_laysBack rfl rfl rfl ⟨rfl, zh_X7_laysBack⟩ ⟨Nat.le_of_ble_eq_true rfl, Nat.le_of_ble_eq_true rfl⟩) (zz_pV (ci := 7) Zc 0 rfl rfl) rfl rfl hl46.1 rfl (lv_room (Nat.le_of_ble_eq_true rfl)) dX7_behind_86 ⟨Nat.le_of_ble_eq_true rfl, Nat.le_of_ble_eq_true rfl⟩) rfl rfl (fun u90 H47 locs48 hw91 Z49 => ?_)
        clear Z44
        obtain ⟨f993, rfl⟩ : ∃ z, z = u90 := ⟨_, rfl⟩
        try dsimp only at hw91 Z49
        have Z50 : zz_S D A s [(mo, .inr (7, [.ref ms, .ref mi, .ref ma, .int 0, .ref mts, .ref mtz, .ref mtn, .ref mh, .ref mhn, .ref mhw, .ref mhz, .ref mhr, .ref mcl, .ref mtp, .int 0, .int 0, .int 0, .int 0, .int 0, .int 0, .int 0, .int 0, .int 0, .int 0, .int 0, .ref mna, .ref mpi, .ref mca, .ref mwa, .int 0, .ref mrd])), (ms, .inl (kms, 3047, .inl f993)), (mcl, .inl (kcl, 47, .inl c969))] [(kms, .int), (kcl, .int)] H47 locs48 := Z49
        clear Z49
        refine lv_iload_n hx hb dX7_behind_89 rfl (lv_at hl46 0 rfl) ?_
        exact zz_iret X hr hlk Z50 () (sp_behind2 hN w4 (hx89.trans (zz_im_it 3 10 (by decide) N 0 0 1 (by decide)))) [] [] (by decide +kernel) rfl rfl dX7_behind_90
      · have e9 : what = 3 := e9
        subst e9
        refine zz_v (v := 1) (by decide) ?_
        refine lv_if_ne (tgt := 27) hx hb dX7_behind_21 (by decide) (fun _ => ?_) (fun h => absurd h (by decide))
        refine lv_aload_n hx hb dX7_behind_27 rfl (lv_at hl 0 rfl) ?_
        refine zz_cv (WC := [(mo, .inr (7, [.ref ms, .ref mi, .ref ma, .int 0, .ref mts, .ref mtz, .ref mtn, .ref mh, .ref mhn, .ref mhw, .ref mhz, .ref mhr, .ref mcl, .ref mtp, .int 0, .int 0, .int 0, .int 0, .int 0, .int 0, .int 0, .int 0, .int 0, .int 0, .int 0, .ref mna, .ref mpi, .ref mca, .ref mwa, .int 0, .ref mrd])), (ms, .inl (kms, 3047, .inl f)), (mcl, .inl (kcl, 47, .inl cf))]) (TC := [(kms, .int), (kcl, .int)]) (WR := []) (TR := []) (k := 0) (n := 0) Z8 [0, 1, 2] [] [0, 1] [] rfl rfl (by decide +kernel) (by decide +kernel) (by decide +kernel) rfl rfl (fun Zc => va_runV (As := []) (rest := []) X (c7_laysBy l D mo ms mi ma mts mtz mtn mh mhn mhw mhz mhr mcl mtp mna mpi mca mwa mrd 0 0 0 0 0 0 0 0 0 0 0 0 0 kms f kcl cf H5.size) (cwV 0 hts gX7_behind_X7_laysBy rfl rfl rfl ⟨rfl, zh_X7_laysBy⟩ ⟨Nat.le_of_ble_eq_true rfl, Nat.le_of_ble_eq_true rfl⟩) (zz_pV (ci := 7) Zc 0 rfl rfl) rfl rfl hl.1 rfl (lv_room (Nat.le_of_ble_eq_true rfl)) dX7_behind_28 ⟨Nat.le_of_ble_eq_true rfl, Nat.le_of_ble_eq_true rfl⟩) rfl rfl (fun u94 H51 locs52 hw95 Z53 => ?_)
        clear Z8
        obtain ⟨c997, rfl⟩ : ∃ z, z = u94 := ⟨_, rfl⟩
        try dsimp only at hw95 Z53
        have Z54 : zz_S D A s [(mo, .inr (7, [.ref ms, .ref mi, .ref ma, .int 0, .ref mts, .ref mtz, .ref mtn, .ref mh, .ref mhn, .ref mhw, .ref mhz, .ref mhr, .ref mcl, .ref mtp, .int 0, .int 0, .int 0, .int 0, .int 0, .int 0, .int 0, .int 0, .int 0, .int 0, .int 0, .ref mna, .ref mpi, .ref mca, .ref mwa, .int 0, .ref mrd])), (ms, .inl (kms, 3047, .inl f)), (mcl, .inl (kcl, 47, .inl c997))] [(kms, .int), (kcl, .int)] H51 locs52 := Z53
        clear Z53
        refine lv_aload_n hx hb dX7_behind_31 rfl (lv_at hl 0 rfl) ?_
        refine lv_iload_n hx hb dX7_behind_32 rfl (lv_at hl 1 rfl) ?_
        refine zz_cv (WC := [(mo, .inr (7, [.ref ms, .ref mi, .ref ma, .int 0, .ref mts, .ref mtz, .ref mtn, .ref mh, .ref mhn, .ref mhw, .ref mhz, .ref mhr, .ref mcl, .ref mtp, .int 0, .int 0, .int 0, .int 0, .int 0, .int 0, .int 0, .int 0, .int 0, .int 0, .int 0, .ref mna, .ref mpi, .ref mca, .ref mwa, .int 0, .ref mrd])), (ms, .inl (kms, 3047, .inl f))]) (TC := [(kms, .int)]) (WR := [(mcl, .inl (kcl, 47, .inl c997))]) (TR := [(kcl, .int)]) (k := 0) (n := 0) Z54 [0, 1] [2] [0] [1] rfl rfl (by decide +kernel) (by decide +kernel) (by decide +kernel) rfl rfl (fun Zc => va_runV (As := [.int (nI N)]) (rest := []) X (c7_many l D mo ms mi ma mts mtz mtn mh mhn mhw mhz mhr mcl mtp mna mpi mca mwa mrd 0 0 0 0 0 0 0 0 0 0 0 0 0 kms f 0 0 0 0 0 1 0 3 10 N af_0 af_1 af_2 af_3 af_4 af_5 af_6 af_7 af_8 af_9 af_10 (by omega) H51.size) (cwV 1 hts gX7_behind_X7_goesOnMany rfl rfl rfl ⟨rfl, zh_X7_goesOnMany⟩ ⟨Nat.le_of_ble_eq_true rfl, Nat.le_of_ble_eq_true rfl⟩) (zz_pV (ci := 7) Zc 0 rfl rfl) rfl rfl hl.1 rfl (lv_room (Nat.le_of_ble_eq_true rfl)) dX7_behind_33 ⟨Nat.le_of_ble_eq_true rfl, Nat.le_of_ble_eq_true rfl⟩) rfl rfl (fun u98 H55 locs56 hw99 Z57 => ?_)
        clear Z54
        obtain ⟨f9101, F9102, T9103, Z9104, H9105⟩ := u98
        try dsimp only at hw99 Z57
        obtain ⟨⟨p106, p107, p108, p109, p110, p111, p112, p113, p114, p115, p116⟩, hx117⟩ := hw99
        have Z58 : zz_S D A s [(mcl, .inl (kcl, 47, .inl c997)), (mo, .inr (7, [.ref ms, .ref mi, .ref ma, .int 0, .ref mts, .ref mtz, .ref mtn, .ref mh, .ref mhn, .ref mhw, .ref mhz, .ref mhr, .ref mcl, .ref mtp, .int 0, .int 0, .int 0, .int 0, .int 0, .int 0, .int 0, .int 0, .int 0, .int 0, .int 0, .ref mna, .ref mpi, .ref mca, .ref mwa, .int 0, .ref mrd])), (ms, .inl (kms, 3047, .inl f9101))] [(kcl, .int), (kms, .int)] H55 locs56 := Z57
        clear Z57
        refine lv_iload_n hx hb dX7_behind_36 rfl (lv_at hl 2 rfl) ?_
        refine lv_if_ne (tgt := 49) hx hb dX7_behind_37 (by decide) (fun _ => ?_) (fun h => absurd h (by decide))
        refine lv_iload_n hx hb dX7_behind_49 rfl (lv_at hl 2 rfl) ?_
        refine lv_iconst (v := 1) hx hb dX7_behind_50 (by decide) ?_
        refine lv_icmp_ne (tgt := 63) hx hb dX7_behind_51 (by decide) (fun _ => ?_) (fun h => absurd h (by decide))
        refine lv_iload_n hx hb dX7_behind_63 rfl (lv_at hl 2 rfl) ?_
        refine lv_iconst (v := 2) hx hb dX7_behind_64 (by decide) ?_
        refine lv_icmp_ne (tgt := 78) hx hb dX7_behind_65 (by decide) (fun _ => ?_) (fun h => absurd h (by decide))
        refine lv_aload_n hx hb dX7_behind_78 rfl (lv_at hl 0 rfl) ?_
        refine zz_get X Z58 1 rfl rfl (fun w h => List.mem_cons_of_mem _ (List.mem_append_right _ h)) 0 rfl (zz_m 4 rfl) rfl dX7_behind_79 ?_
        refine lv_iconst (v := 5) hx hb dX7_behind_82 (by decide) ?_
        refine zz_ild X Z58 2 1 rfl rfl (zz_in 5 3047 rfl) dX7_behind_83 ?_
        refine zz_v (v := T9103) p111 ?_
        refine lv_istore_n (lv' := [(3, .int T9103), (0, .ref mo), (1, .int (nI N)), (2, .int 3)]) hx hb dX7_behind_84 rfl hl (by decide) rfl (fun ls59 hl60 => ?_)
        clear hl
        refine lv_aload_n hx hb dX7_behind_85 rfl (lv_at hl60 1 rfl) ?_
        refine zz_cv (WC := [(mo, .inr (7, [.ref ms, .ref mi, .ref ma, .int 0, .ref mts, .ref mtz, .ref mtn, .ref mh, .ref mhn, .ref mhw, .ref mhz, .ref mhr, .ref mcl, .ref mtp, .int 0, .int 0, .int 0, .int 0, .int 0, .int 0, .int 0, .int 0, .int 0, .int 0, .int 0, .ref mna, .ref mpi, .ref mca, .ref mwa, .int 0, .ref mrd])), (ms, .inl (kms, 3047, .inl f9101)), (mcl, .inl (kcl, 47, .inl c997))]) (TC := [(kms, .int), (kcl, .int)]) (WR := []) (TR := []) (k := 0) (n := 0) Z58 [1, 2, 0] [] [1, 0] [] rfl rfl (by decide +kernel) (by decide +kernel) (by decide +kernel) rfl rfl (fun Zc => va_runV (As := []) (rest := []) X (c7_laysBack l D mo ms mi ma mts mtz mtn mh mhn mhw mhz mhr mcl mtp mna mpi mca mwa mrd 0 0 0 0 0 0 0 0 0 0 0 0 0 kms f9101 kcl c997 H55.size) (cwV 0 hts gX7_behind_X7_laysBack rfl rfl rfl ⟨rfl, zh_X7_laysBack⟩ ⟨Nat.le_of_ble_eq_true rfl, Nat.le_of_ble_eq_true rfl⟩) (zz_pV (ci := 7) Zc 0 rfl rfl) rfl rfl hl60.1 rfl (lv_room (Nat.le_of_ble_eq_true rfl)) dX7_behind_86 ⟨Nat.le_of_ble_eq_true rfl, Nat.le_of_ble_eq_true rfl⟩) rfl rfl (fun u118 H61 locs62 hw119 Z63 => ?_)
        clear Z58
        obtain ⟨f9121, rfl⟩ : ∃ z, z = u118 := ⟨_, rfl⟩
        try dsimp only at hw119 Z63
        have Z64 : zz_S D A s [(mo, .inr (7, [.ref ms, .ref mi, .ref ma, .int 0, .ref mts, .ref mtz, .ref mtn, .ref mh, .ref mhn, .ref mhw, .ref mhz, .ref mhr, .ref mcl, .ref mtp, .int 0, .int 0, .int 0, .int 0, .int 0, .int 0, .int 0, .int 0, .int 0, .int 0, .int 0, .ref mna, .ref mpi, .ref mca, .ref mwa, .int 0, .ref mrd])), (ms, .inl (kms, 3047, .inl f9121)), (mcl, .inl (kcl, 47, .inl c997))] [(kms, .int), (kcl, .int)] H61 locs62 := Z63
        clear Z63
        refine lv_iload_n hx hb dX7_behind_89 rfl (lv_at hl60 0 rfl) ?_
        exact zz_iret X hr hlk Z64 () (sp_behind3 hN w4 (hx117.trans (zz_im_it 3 10 (by decide) N 0 0 1 (by decide)))) [] [] (by decide +kernel) rfl rfl dX7_behind_90
    · refine zz_v (v := 0) (zz_wiF w8) ?_
      refine lv_if_ne (tgt := 27) hx hb dX7_behind_21 (by decide) (fun h => absurd (by decide) h) (fun _ => ?_)
      refine lv_ldc (v := (-1000000001)) hx hb hown (hts _ (zz_m 3 rfl)) dX7_behind_24 ?_
      exact zz_iret X hr hlk Z8 () (by simp [sp_behind, w4, w8]) [] [] (by decide +kernel) rfl rfl dX7_behind_26
  · refine zz_v (v := 0) (zz_wiF w4) ?_
    refine lv_if_eq (tgt := 24) hx hb dX7_behind_9 (by decide) (fun _ => ?_) (fun h => absurd (by decide) h)
    refine lv_ldc (v := (-1000000001)) hx hb hown (hts _ (zz_m 3 rfl)) dX7_behind_24 ?_
    exact zz_iret X hr hlk Z4 () (by simp [sp_behind, w4]) [] [] (by decide +kernel) rfl rfl dX7_behind_26

set_option maxHeartbeats 4000000 in
set_option maxRecDepth 100000 in
theorem c7_wider (l : Launch) (D : va_G) (mo : Nat) (ms : Nat) (mi : Nat) (ma : Nat) (mts : Nat) (mtz : Nat) (mtn : Nat) (mh : Nat) (mhn : Nat) (mhw : Nat) (mhz : Nat) (mhr : Nat) (mcl : Nat) (mtp : Nat) (mna : Nat) (mpi : Nat) (mca : Nat) (mwa : Nat) (mrd : Nat) (kms : ClassId) (f : (Nat → Int32)) (kcl : ClassId) (cf : (Nat → Int32)) (ww : Int32) (n : Int32) (af_0 : f 0 = 0) (af_1 : f 1 = 0) (af_2 : f 2 = 0) (af_3 : f 3 = 0) (af_4 : f 4 = 0) (af_5 : f 5 = 0) (af_6 : f 6 = 1) (af_7 : f 7 = 0) (af_8 : f 8 = 3) (af_9 : f 9 = 10) (af_10 : f 10 = 0) : zz_MI l yX7_wider wsX7_wider 5 106 0 0 D [.ref mo, .int ww, .int n] [(mo, .inr (7, [.ref ms, .ref mi, .ref ma, .int 0, .ref mts, .ref mtz, .ref mtn, .ref mh, .ref mhn, .ref mhw, .ref mhz, .ref mhr, .ref mcl, .ref mtp, .int 0, .int 0, .int 0, .int 0, .int 0, .int 0, .int 0, .int 0, .int 0, .int 0, .int 0, .ref mna, .ref mpi, .ref mca, .ref mwa, .int 0, .ref mrd])), (ms, .inl (kms, 3047, .inl f)), (mcl, .inl (kcl, 47, .inl cf))] [(kms, .int), (kcl, .int)] (fun (r : Int32) (u : Unit) => r = sp_wider ww n) (fun (u : Unit) => []) (fun (u : Unit) => []) := by
  intro sz
  refine Met.ofW (cc := cX7_wider) (maxL := 5) (ret := (some .int)) (by decide) rfl ?_
  intro p e s m args below meth c s₁ B hml hv
  obtain ⟨rfl, hC⟩ := hv
  have hx := B.exec
  have hb := B.bytes
  have hr := B.returns
  have hts := atoms_spec (ws := wsX7_wider) B.pre
  have hown : s.vm.findClass RX7 = some m.cls := findClass_of_methodNamed B.named
  have hlk := B.notSynchronized
  have X : CallFix p m c cX7_wider 5 s _ wsX7_wider RX7 := ⟨hx, hb, hml, hown, hts⟩
  have Z := zz_enter hC
  generalize va_A [(mo, .inr (7, [.ref ms, .ref mi, .ref ma, .int 0, .ref mts, .ref mtz, .ref mtn, .ref mh, .ref mhn, .ref mhw, .ref mhz, .ref mhr, .ref mcl, .ref mtp, .int 0, .int 0, .int 0, .int 0, .int 0, .int 0, .int 0, .int 0, .int 0, .int 0, .int 0, .ref mna, .ref mpi, .ref mca, .ref mwa, .int 0, .ref mrd])), (ms, .inl (kms, 3047, .inl f)), (mcl, .inl (kcl, 47, .inl cf))] sz = A at Z ⊢
  have hl := lv_entry ([.ref mo, .int ww, .int n]) (n := 5) (Nat.le_of_ble_eq_true rfl)
  rw [lg_entry_eq]
  generalize (lg_sl ([.ref mo, .int ww, .int n]) ++ List.replicate (5 - (lg_sl ([.ref mo, .int ww, .int n])).length) Slot.unset).toArray = ls at hl ⊢
  have hl : lv_has ls 5 [(0, .ref mo), (1, .int ww), (2, .int n)] := hl
  refine lv_iload_n hx hb dX7_wider_0 rfl (lv_at hl 1 rfl) ?_
  refine lv_i2l (v := Int32.toInt64 ww) hx hb dX7_wider_1 rfl ?_
  refine lv_lconst (v := 0) hx hb dX7_wider_2 (by decide) ?_
  refine zz_vl (v := Int32.toInt64 0) (by decide) ?_
  refine lv_ldc2 (v := 9999) hx hb hown (hts _ (zz_m 1 rfl)) dX7_wider_3 ?_
  refine zz_vl (v := Int32.toInt64 9999) (by decide) ?_
  refine zz_ci (WC := []) (TC := []) (WR := [(mo, .inr (7, [.ref ms, .ref mi, .ref ma, .int 0, .ref mts, .ref mtz, .ref mtn, .ref mh, .ref mhn, .ref mhw, .ref mhz, .ref mhr, .ref mcl, .ref mtp, .int 0, .int 0, .int 0, .int 0, .int 0, .int 0, .int 0, .int 0, .int 0, .int 0, .int 0, .ref mna, .ref mpi, .ref mca, .ref mwa, .int 0, .ref mrd])), (ms, .inl (kms, 3047, .inl f)), (mcl, .inl (kcl, 47, .inl cf))]) (TR := [(kms, .int), (kcl, .int)]) (k := 0) (n := 0) Z [] [0, 1, 2] [] [0, 1] rfl rfl (by decide +kernel) (by decide +kernel) (by decide +kernel) rfl rfl (fun Zc => va_runS (As := [.long (Int32.toInt64 ww), .long (Int32.toInt64 0), .long (Int32.toInt64 9999)]) (rest := []) X (c_isIn l D ww 0 9999 s.heap.size) (va_cwS 3 hts gX7_wider_X7_isIn rfl rfl rfl zh_X7_isIn ⟨Nat.le_of_ble_eq_true rfl, Nat.le_of_ble_eq_true rfl⟩) (zz_pS Zc) rfl rfl hl.1 rfl (lv_room (Nat.le_of_ble_eq_true rfl)) dX7_wider_6 ⟨Nat.le_of_ble_eq_true rfl, Nat.le_of_ble_eq_true rfl⟩) rfl rfl (fun r3 u1 H1 locs2 hw2 Z3 => ?_)
  clear Z
  subst r3
  have Z4 : zz_S D A s [(mo, .inr (7, [.ref ms, .ref mi, .ref ma, .int 0, .ref mts, .ref mtz, .ref mtn, .ref mh, .ref mhn, .ref mhw, .ref mhz, .ref mhr, .ref mcl, .ref mtp, .int 0, .int 0, .int 0, .int 0, .int 0, .int 0, .int 0, .int 0, .int 0, .int 0, .int 0, .ref mna, .ref mpi, .ref mca, .ref mwa, .int 0, .ref mrd])), (ms, .inl (kms, 3047, .inl f)), (mcl, .inl (kcl, 47, .inl cf))] [(kms, .int), (kcl, .int)] H1 locs2 := Z3
  clear Z3
  by_cases w4 : 0 ≤ ww ∧ ww ≤ 9999
  · refine zz_v (v := 1) (zz_wiT w4) ?_
    refine lv_if_eq (tgt := 24) hx hb dX7_wider_9 (by decide) (fun h => absurd h (by decide)) (fun _ => ?_)
    refine lv_iload_n hx hb dX7_wider_12 rfl (lv_at hl 2 rfl) ?_
    refine lv_i2l (v := Int32.toInt64 n) hx hb dX7_wider_13 rfl ?_
    refine lv_lconst (v := 1) hx hb dX7_wider_14 (by decide) ?_
    refine zz_vl (v := Int32.toInt64 1) (by decide) ?_
    refine lv_ldc2 (v := 60) hx hb hown (hts _ (zz_m 2 rfl)) dX7_wider_15 ?_
    refine zz_vl (v := Int32.toInt64 60) (by decide) ?_
    refine zz_ci (WC := []) (TC := []) (WR := [(mo, .inr (7, [.ref ms, .ref mi, .ref ma, .int 0, .ref mts, .ref mtz, .ref mtn, .ref mh, .ref mhn, .ref mhw, .ref mhz, .ref mhr, .ref mcl, .ref mtp, .int 0, .int 0, .int 0, .int 0, .int 0, .int 0, .int 0, .int 0, .int 0, .int 0, .int 0, .ref mna, .ref mpi, .ref mca, .ref mwa, .int 0, .ref mrd])), (ms, .inl (kms, 3047, .inl f)), (mcl, .inl (kcl, 47, .inl cf))]) (TR := [(kms, .int), (kcl, .int)]) (k := 0) (n := 0) Z4 [] [0, 1, 2] [] [0, 1] rfl rfl (by decide +kernel) (by decide +kernel) (by decide +kernel) rfl rfl (fun Zc => va_runS (As := [.long (Int32.toInt64 n), .long (Int32.toInt64 1), .long (Int32.toInt64 60)]) (rest := []) X (c_isIn l D n 1 60 H1.size) (va_cwS 3 hts gX7_wider_X7_isIn rfl rfl rfl zh_X7_isIn ⟨Nat.le_of_ble_eq_true rfl, Nat.le_of_ble_eq_true rfl⟩) (zz_pS Zc) rfl rfl hl.1 rfl (lv_room (Nat.le_of_ble_eq_true rfl)) dX7_wider_18 ⟨Nat.le_of_ble_eq_true rfl, Nat.le_of_ble_eq_true rfl⟩) rfl rfl (fun r7 u5 H5 locs6 hw6 Z7 => ?_)
    clear Z4
    subst r7
    have Z8 : zz_S D A s [(mo, .inr (7, [.ref ms, .ref mi, .ref ma, .int 0, .ref mts, .ref mtz, .ref mtn, .ref mh, .ref mhn, .ref mhw, .ref mhz, .ref mhr, .ref mcl, .ref mtp, .int 0, .int 0, .int 0, .int 0, .int 0, .int 0, .int 0, .int 0, .int 0, .int 0, .int 0, .ref mna, .ref mpi, .ref mca, .ref mwa, .int 0, .ref mrd])), (ms, .inl (kms, 3047, .inl f)), (mcl, .inl (kcl, 47, .inl cf))] [(kms, .int), (kcl, .int)] H5 locs6 := Z7
    clear Z7
    by_cases w8 : 1 ≤ n ∧ n ≤ 60
    · obtain ⟨N, ⟨hN1, hN⟩, eN⟩ := zz_rng1 60 w8 (by decide)
      subst eN
      refine zz_v (v := 1) (zz_wiT w8) ?_
      refine lv_if_ne (tgt := 27) hx hb dX7_wider_21 (by decide) (fun _ => ?_) (fun h => absurd h (by decide))
      refine lv_aload_n hx hb dX7_wider_27 rfl (lv_at hl 0 rfl) ?_
      refine zz_cv (WC := [(mo, .inr (7, [.ref ms, .ref mi, .ref ma, .int 0, .ref mts, .ref mtz, .ref mtn, .ref mh, .ref mhn, .ref mhw, .ref mhz, .ref mhr, .ref mcl, .ref mtp, .int 0, .int 0, .int 0, .int 0, .int 0, .int 0, .int 0, .int 0, .int 0, .int 0, .int 0, .ref mna, .ref mpi, .ref mca, .ref mwa, .int 0, .ref mrd])), (ms, .inl (kms, 3047, .inl f)), (mcl, .inl (kcl, 47, .inl cf))]) (TC := [(kms, .int), (kcl, .int)]) (WR := []) (TR := []) (k := 0) (n := 0) Z8 [0, 1, 2] [] [0, 1] [] rfl rfl (by decide +kernel) (by decide +kernel) (by decide +kernel) rfl rfl (fun Zc => va_runV (As := []) (rest := []) X (c7_laysBy l D mo ms mi ma mts mtz mtn mh mhn mhw mhz mhr mcl mtp mna mpi mca mwa mrd 0 0 0 0 0 0 0 0 0 0 0 0 0 kms f kcl cf H5.size) (cwV 0 hts gX7_wider_X7_laysBy rfl rfl rfl ⟨rfl, zh_X7_laysBy⟩ ⟨Nat.le_of_ble_eq_true rfl, Nat.le_of_ble_eq_true rfl⟩) (zz_pV (ci := 7) Zc 0 rfl rfl) rfl rfl hl.1 rfl (lv_room (Nat.le_of_ble_eq_true rfl)) dX7_wider_28 ⟨Nat.le_of_ble_eq_true rfl, Nat.le_of_ble_eq_true rfl⟩) rfl rfl (fun u9 H9 locs10 hw10 Z11 => ?_)
      clear Z8
      obtain ⟨c912, rfl⟩ : ∃ z, z = u9 := ⟨_, rfl⟩
      try dsimp only at hw10 Z11
      have Z12 : zz_S D A s [(mo, .inr (7, [.ref ms, .ref mi, .ref ma, .int 0, .ref mts, .ref mtz, .ref mtn, .ref mh, .ref mhn, .ref mhw, .ref mhz, .ref mhr, .ref mcl, .ref mtp, .int 0, .int 0, .int 0, .int 0, .int 0, .int 0, .int 0, .int 0, .int 0, .int 0, .int 0, .ref mna, .ref mpi, .ref mca, .ref mwa, .int 0, .ref mrd])), (ms, .inl (kms, 3047, .inl f)), (mcl, .inl (kcl, 47, .inl c912))] [(kms, .int), (kcl, .int)] H9 locs10 := Z11
      clear Z11
      refine lv_iconst (v := (-1)) hx hb dX7_wider_31 (by decide) ?_
      refine lv_istore_n (lv' := [(3, .int (-1)), (0, .ref mo), (1, .int ww), (2, .int (nI N))]) hx hb dX7_wider_32 rfl hl (by decide) rfl (fun ls13 hl14 => ?_)
      clear hl
      refine lv_bipush (v := 6) hx hb dX7_wider_33 (by decide) ?_
      refine lv_istore (lv' := [(4, .int 6), (3, .int (-1)), (0, .ref mo), (1, .int ww), (2, .int (nI N))]) hx hb dX7_wider_35 hl14 (by decide) rfl (fun ls15 hl16 => ?_)
      clear hl14
      refine lv_iload hx hb dX7_wider_37 (lv_at hl16 0 rfl) ?_
      refine lv_iconst (v := 1) hx hb dX7_wider_39 (by decide) ?_
      refine lv_icmp_lt (tgt := 88) hx hb dX7_wider_40 (by decide) (fun h => absurd h (by decide)) (fun _ => ?_)
      refine lv_aload_n hx hb dX7_wider_43 rfl (lv_at hl16 2 rfl) ?_
      refine zz_get X Z12 0 rfl rfl (fun w h => List.mem_cons_of_mem _ (List.mem_append_right _ h)) 0 rfl (zz_m 4 rfl) rfl dX7_wider_44 ?_
      refine lv_bipush (v := 8) hx hb dX7_wider_47 (by decide) ?_
      refine lv_iload hx hb dX7_wider_49 (lv_at hl16 0 rfl) ?_
      refine zz_istN (WS' := fun f13 => [(mo, .inr (7, [.ref ms, .ref mi, .ref ma, .int 0, .ref mts, .ref mtz, .ref mtn, .ref mh, .ref mhn, .ref mhw, .ref mhz, .ref mhr, .ref mcl, .ref mtp, .int 0, .int 0, .int 0, .int 0, .int 0, .int 0, .int 0, .int 0, .int 0, .int 0, .int 0, .ref mna, .ref mpi, .ref mca, .ref mwa, .int 0, .ref mrd])), (ms, .inl (kms, 3047, .inl f13)), (mcl, .inl (kcl, 47, .inl c912))]) X Z12 1 0 rfl rfl (zz_in 8 3047 rfl) dX7_wider_51 (fun _ => rfl) (fun f13 ef14 H17 locs18 Z19 => ?_)
      clear Z12
      have p15 : f13 8 = 6 := (by rw [ef14]; rfl)
      have p16 : f13 0 = 0 := (by rw [ef14]; exact af_0)
      have p17 : f13 1 = 0 := (by rw [ef14]; exact af_1)
      have p18 : f13 2 = 0 := (by rw [ef14]; exact af_2)
      have p19 : f13 3 = 0 := (by rw [ef14]; exact af_3)
      have p20 : f13 4 = 0 := (by rw [ef14]; exact af_4)
      have p21 : f13 5 = 0 := (by rw [ef14]; exact af_5)
      have p22 : f13 6 = 1 := (by rw [ef14]; exact af_6)
      have p23 : f13 7 = 0 := (by rw [ef14]; exact af_7)
      have p24 : f13 9 = 10 := (by rw [ef14]; exact af_9)
      have p25 : f13 10 = 0 := (by rw [ef14]; exact af_10)
      refine lv_aload_n hx hb dX7_wider_52 rfl (lv_at hl16 2 rfl) ?_
      refine zz_cv (WC := [(mo, .inr (7, [.ref ms, .ref mi, .ref ma, .int 0, .ref mts, .ref mtz, .ref mtn, .ref mh, .ref mhn, .ref mhw, .ref mhz, .ref mhr, .ref mcl, .ref mtp, .int 0, .int 0, .int 0, .int 0, .int 0, .int 0, .int 0, .int 0, .int 0, .int 0, .int 0, .ref mna, .ref mpi, .ref mca, .ref mwa, .int 0, .ref mrd])), (ms, .inl (kms, 3047, .inl f13))]) (TC := [(kms, .int)]) (WR := [(mcl, .inl (kcl, 47, .inl c912))]) (TR := [(kcl, .int)]) (k := 0) (n := 0) Z19 [0, 1] [2] [0] [1] rfl rfl (by decide +kernel) (by decide +kernel) (by decide +kernel) rfl rfl (fun Zc => va_runV (As := []) (rest := []) X (c7_holds l D mo ms mi ma mts mtz mtn mh mhn mhw mhz mhr mcl mtp mna mpi mca mwa mrd 0 0 0 0 0 0 0 0 0 0 0 0 0 kms f13 0 0 0 0 0 0 1 0 6 10 0 p16 p17 p18 p19 p20 p21 p22 p23 p15 p24 p25 H17.size) (cwV 0 hts gX7_wider_X7_holds rfl rfl rfl ⟨rfl, zh_X7_holds⟩ ⟨Nat.le_of_ble_eq_true rfl, Nat.le_of_ble_eq_true rfl⟩) (zz_pV (ci := 7) Zc 0 rfl rfl) rfl rfl hl16.1 rfl (lv_room (Nat.le_of_ble_eq_true rfl)) dX7_wider_53 ⟨Nat.le_of_ble_eq_true rfl, Nat.le_of_ble_eq_true rfl⟩) rfl rfl (fun u26 H20 locs21 hw27 Z22 => ?_)
      clear Z19
      obtain ⟨f929, rfl⟩ : ∃ z, z = u26 := ⟨_, rfl⟩
      try dsimp only at hw27 Z22
      obtain ⟨⟨p30, p31, p32, p33, p34, p35, p36, p37, p38, p39, p40⟩, hx41⟩ := hw27
      have Z23 : zz_S D A s [(mcl, .inl (kcl, 47, .inl c912)), (mo, .inr (7, [.ref ms, .ref mi, .ref ma, .int 0, .ref mts, .ref mtz, .ref mtn, .ref mh, .ref mhn, .ref mhw, .ref mhz, .ref mhr, .ref mcl, .ref mtp, .int 0, .int 0, .int 0, .int 0, .int 0, .int 0, .int 0, .int 0, .int 0, .int 0, .int 0, .ref mna, .ref mpi, .ref mca, .ref mwa, .int 0, .ref mrd])), (ms, .inl (kms, 3047, .inl f929))] [(kcl, .int), (kms, .int)] H20 locs21 := Z22
      clear Z22
      refine lv_aload_n hx hb dX7_wider_56 rfl (lv_at hl16 2 rfl) ?_
      refine lv_iload_n hx hb dX7_wider_57 rfl (lv_at hl16 4 rfl) ?_
      refine zz_cv (WC := [(mo, .inr (7, [.ref ms, .ref mi, .ref ma, .int 0, .ref mts, .ref mtz, .ref mtn, .ref mh, .ref mhn, .ref mhw, .ref mhz, .ref mhr, .ref mcl, .ref mtp, .int 0, .int 0, .int 0, .int 0, .int 0, .int 0, .int 0, .int 0, .int 0, .int 0, .int 0, .ref mna, .ref mpi, .ref mca, .ref mwa, .int 0, .ref mrd])), (ms, .inl (kms, 3047, .inl f929))]) (TC := [(kms, .int)]) (WR := [(mcl, .inl (kcl, 47, .inl c912))]) (TR := [(kcl, .int)]) (k := 0) (n := 0) Z23 [1, 2] [0] [1] [0] rfl rfl (by decide +kernel) (by decide +kernel) (by decide +kernel) rfl rfl (fun Zc => va_runV (As := [.int (nI N)]) (rest := []) X (c7_many l D mo ms mi ma mts mtz mtn mh mhn mhw mhz mhr mcl mtp mna mpi mca mwa mrd 0 0 0 0 0 0 0 0 0 0 0 0 0 kms f929 0 0 0 0 0 1 (zz_hw 0 (12 - 6)) 6 10 N p30 p31 p32 p33 p34 p35 p36 p37 p38 p39 p40 (by omega) H20.size) (cwV 1 hts gX7_wider_X7_goesOnMany rfl rfl rfl ⟨rfl, zh_X7_goesOnMany⟩ ⟨Nat.le_of_ble_eq_true rfl, Nat.le_of_ble_eq_true rfl⟩) (zz_pV (ci := 7) Zc 0 rfl rfl) rfl rfl hl16.1 rfl (lv_room (Nat.le_of_ble_eq_true rfl)) dX7_wider_58 ⟨Nat.le_of_ble_eq_true rfl, Nat.le_of_ble_eq_true rfl⟩) rfl rfl (fun u42 H24 locs25 hw43 Z26 => ?_)
      clear Z23
      obtain ⟨f945, F946, T947, Z948, H949⟩ := u42
      try dsimp only at hw43 Z26
      obtain ⟨⟨p50, p51, p52, p53, p54, p55, p56, p57, p58, p59, p60⟩, hx61⟩ := hw43
      have Z27 : zz_S D A s [(mcl, .inl (kcl, 47, .inl c912)), (mo, .inr (7, [.ref ms, .ref mi, .ref ma, .int 0, .ref mts, .ref mtz, .ref mtn, .ref mh, .ref mhn, .ref mhw, .ref mhz, .ref mhr, .ref mcl, .ref mtp, .int 0, .int 0, .int 0, .int 0, .int 0, .int 0, .int 0, .int 0, .int 0, .int 0, .int 0, .ref mna, .ref mpi, .ref mca, .ref mwa, .int 0, .ref mrd])), (ms, .inl (kms, 3047, .inl f945))] [(kcl, .int), (kms, .int)] H24 locs25 := Z26
      clear Z26
      refine lv_aload_n hx hb dX7_wider_61 rfl (lv_at hl16 2 rfl) ?_
      refine zz_get X Z27 1 rfl rfl (fun w h => List.mem_cons_of_mem _ (List.mem_append_right _ h)) 0 rfl (zz_m 4 rfl) rfl dX7_wider_62 ?_
      refine lv_iconst (v := 4) hx hb dX7_wider_65 (by decide) ?_
      refine zz_ild X Z27 2 1 rfl rfl (zz_in 4 3047 rfl) dX7_wider_66 ?_
      refine zz_v (v := 0) p54 ?_
      refine lv_iload_n hx hb dX7_wider_67 rfl (lv_at hl16 3 rfl) ?_
      refine lv_icmp_gt (tgt := 76) hx hb dX7_wider_68 (by decide) (fun h => absurd h (Int32.not_lt.mpr w4.1)) (fun _ => ?_)
      refine lv_iload hx hb dX7_wider_71 (lv_at hl16 0 rfl) ?_
      refine lv_goto (tgt := 77) hx hb dX7_wider_73 (by decide) ?_
      refine lv_istore_n (lv' := [(3, .int 6), (4, .int 6), (0, .ref mo), (1, .int ww), (2, .int (nI N))]) hx hb dX7_wider_77 rfl hl16 (by decide) rfl (fun ls28 hl29 => ?_)
      clear hl16
      refine lv_aload_n hx hb dX7_wider_78 rfl (lv_at hl29 2 rfl) ?_
      refine zz_cv (WC := [(mo, .inr (7, [.ref ms, .ref mi, .ref ma, .int 0, .ref mts, .ref mtz, .ref mtn, .ref mh, .ref mhn, .ref mhw, .ref mhz, .ref mhr, .ref mcl, .ref mtp, .int 0, .int 0, .int 0, .int 0, .int 0, .int 0, .int 0, .int 0, .int 0, .int 0, .int 0, .ref mna, .ref mpi, .ref mca, .ref mwa, .int 0, .ref mrd])), (ms, .inl (kms, 3047, .inl f945)), (mcl, .inl (kcl, 47, .inl c912))]) (TC := [(kms, .int), (kcl, .int)]) (WR := []) (TR := []) (k := 0) (n := 0) Z27 [1, 2, 0] [] [1, 0] [] rfl rfl (by decide +kernel) (by decide +kernel) (by decide +kernel) rfl rfl (fun Zc => va_runV (As := []) (rest := []) X (c7_laysBack l D mo ms mi ma mts mtz mtn mh mhn mhw mhz mhr mcl mtp mna mpi mca mwa mrd 0 0 0 0 0 0 0 0 0 0 0 0 0 kms f945 kcl c912 H24.size) (cwV 0 hts gX7_wider_X7_laysBack rfl rfl rfl ⟨rfl, zh_X7_laysBack⟩ ⟨Nat.le_of_ble_eq_true rfl, Nat.le_of_ble_eq_true rfl⟩) (zz_pV (ci := 7) Zc 0 rfl rfl) rfl rfl hl29.1 rfl (lv_room (Nat.le_of_ble_eq_true rfl)) dX7_wider_79 ⟨Nat.le_of_ble_eq_true rfl, Nat.le_of_ble_eq_true rfl⟩) rfl rfl (fun u62 H30 locs31 hw63 Z32 => ?_)
      clear Z27
      obtain ⟨f965, rfl⟩ : ∃ z, z = u62 := ⟨_, rfl⟩
      try dsimp only at hw63 Z32
      have Z33 : zz_S D A s [(mo, .inr (7, [.ref ms, .ref mi, .ref ma, .int 0, .ref mts, .ref mtz, .ref mtn, .ref mh, .ref mhn, .ref mhw, .ref mhz, .ref mhr, .ref mcl, .ref mtp, .int 0, .int 0, .int 0, .int 0, .int 0, .int 0, .int 0, .int 0, .int 0, .int 0, .int 0, .ref mna, .ref mpi, .ref mca, .ref mwa, .int 0, .ref mrd])), (ms, .inl (kms, 3047, .inl f965)), (mcl, .inl (kcl, 47, .inl c912))] [(kms, .int), (kcl, .int)] H30 locs31 := Z32
      clear Z32
      have p66 : f965 0 = 0 := (hw63 0 (by decide)).trans ((hw10 0 (by decide)).trans af_0)
      have p67 : f965 1 = 0 := (hw63 1 (by decide)).trans ((hw10 1 (by decide)).trans af_1)
      have p68 : f965 2 = 0 := (hw63 2 (by decide)).trans ((hw10 2 (by decide)).trans af_2)
      have p69 : f965 3 = 0 := (hw63 3 (by decide)).trans ((hw10 3 (by decide)).trans af_3)
      have p70 : f965 4 = 0 := (hw63 4 (by decide)).trans ((hw10 4 (by decide)).trans af_4)
      have p71 : f965 5 = 0 := (hw63 5 (by decide)).trans ((hw10 5 (by decide)).trans af_5)
      have p72 : f965 6 = 1 := (hw63 6 (by decide)).trans ((hw10 6 (by decide)).trans af_6)
      have p73 : f965 7 = 0 := (hw63 7 (by decide)).trans ((hw10 7 (by decide)).trans af_7)
      have p74 : f965 8 = 3 := (hw63 8 (by decide)).trans ((hw10 8 (by decide)).trans af_8)
      have p75 : f965 9 = 10 := (hw63 9 (by decide)).trans ((hw10 9 (by decide)).trans af_9)
      have p76 : f965 10 = 0 := (hw63 10 (by decide)).trans ((hw10 10 (by decide)).trans af_10)
      refine lv_iinc (v := 5) (lv' := [(4, .int 5), (3, .int 6), (0, .ref mo), (1, .int ww), (2, .int (nI N))]) hx hb dX7_wider_82 hl29 (k := 1) rfl (by decide) (by decide) rfl (fun ls34 hl35 => ?_)
      clear hl29
      refine lv_goto (tgt := 37) hx hb dX7_wider_85 (by decide) ?_
      refine lv_iload hx hb dX7_wider_37 (lv_at hl35 0 rfl) ?_
      refine lv_iconst (v := 1) hx hb dX7_wider_39 (by decide) ?_
      refine lv_icmp_lt (tgt := 88) hx hb dX7_wider_40 (by decide) (fun h => absurd h (by decide)) (fun _ => ?_)
      refine lv_aload_n hx hb dX7_wider_43 rfl (lv_at hl35 2 rfl) ?_
      refine zz_get X Z33 0 rfl rfl (fun w h => List.mem_cons_of_mem _ (List.mem_append_right _ h)) 0 rfl (zz_m 4 rfl) rfl dX7_wider_44 ?_
      refine lv_bipush (v := 8) hx hb dX7_wider_47 (by decide) ?_
      refine lv_iload hx hb dX7_wider_49 (lv_at hl35 0 rfl) ?_
      refine zz_istN (WS' := fun f77 => [(mo, .inr (7, [.ref ms, .ref mi, .ref ma, .int 0, .ref mts, .ref mtz, .ref mtn, .ref mh, .ref mhn, .ref mhw, .ref mhz, .ref mhr, .ref mcl, .ref mtp, .int 0, .int 0, .int 0, .int 0, .int 0, .int 0, .int 0, .int 0, .int 0, .int 0, .int 0, .ref mna, .ref mpi, .ref mca, .ref mwa, .int 0, .ref mrd])), (ms, .inl (kms, 3047, .inl f77)), (mcl, .inl (kcl, 47, .inl c912))]) X Z33 1 0 rfl rfl (zz_in 8 3047 rfl) dX7_wider_51 (fun _ => rfl) (fun f77 ef78 H36 locs37 Z38 => ?_)
      clear Z33
      have p79 : f77 8 = 5 := (by rw [ef78]; rfl)
      have p80 : f77 0 = 0 := (by rw [ef78]; exact p66)
      have p81 : f77 1 = 0 := (by rw [ef78]; exact p67)
      have p82 : f77 2 = 0 := (by rw [ef78]; exact p68)
      have p83 : f77 3 = 0 := (by rw [ef78]; exact p69)
      have p84 : f77 4 = 0 := (by rw [ef78]; exact p70)
      have p85 : f77 5 = 0 := (by rw [ef78]; exact p71)
      have p86 : f77 6 = 1 := (by rw [ef78]; exact p72)
      have p87 : f77 7 = 0 := (by rw [ef78]; exact p73)
      have p88 : f77 9 = 10 := (by rw [ef78]; exact p75)
      have p89 : f77 10 = 0 := (by rw [ef78]; exact p76)
      refine lv_aload_n hx hb dX7_wider_52 rfl (lv_at hl35 2 rfl) ?_
      refine zz_cv (WC := [(mo, .inr (7, [.ref ms, .ref mi, .ref ma, .int 0, .ref mts, .ref mtz, .ref mtn, .ref mh, .ref mhn, .ref mhw, .ref mhz, .ref mhr, .ref mcl, .ref mtp, .int 0, .int 0, .int 0, .int 0, .int 0, .int 0, .int 0, .int 0, .int 0, .int 0, .int 0, .ref mna, .ref mpi, .ref mca, .ref mwa, .int 0, .ref mrd])), (ms, .inl (kms, 3047, .inl f77))]) (TC := [(kms, .int)]) (WR := [(mcl, .inl (kcl, 47, .inl c912))]) (TR := [(kcl, .int)]) (k := 0) (n := 0) Z38 [0, 1] [2] [0] [1] rfl rfl (by decide +kernel) (by decide +kernel) (by decide +kernel) rfl rfl (fun Zc => va_runV (As := []) (rest := []) X (c7_holds l D mo ms mi ma mts mtz mtn mh mhn mhw mhz mhr mcl mtp mna mpi mca mwa mrd 0 0 0 0 0 0 0 0 0 0 0 0 0 kms f77 0 0 0 0 0 0 1 0 5 10 0 p80 p81 p82 p83 p84 p85 p86 p87 p79 p88 p89 H36.size) (cwV 0 hts gX7_wider_X7_holds rfl rfl rfl ⟨rfl, zh_X7_holds⟩ ⟨Nat.le_of_ble_eq_true rfl, Nat.le_of_ble_eq_true rfl⟩) (zz_pV (ci := 7) Zc 0 rfl rfl) rfl rfl hl35.1 rfl (lv_room (Nat.le_of_ble_eq_true rfl)) dX7_wider_53 ⟨Nat.le_of_ble_eq_true rfl, Nat.le_of_ble_eq_true rfl⟩) rfl rfl (fun u90 H39 locs40 hw91 Z41 => ?_)
      clear Z38
      obtain ⟨f993, rfl⟩ : ∃ z, z = u90 := ⟨_, rfl⟩
      try dsimp only at hw91 Z41
      obtain ⟨⟨p94, p95, p96, p97, p98, p99, p100, p101, p102, p103, p104⟩, hx105⟩ := hw91
      have Z42 : zz_S D A s [(mcl, .inl (kcl, 47, .inl c912)), (mo, .inr (7, [.ref ms, .ref mi, .ref ma, .int 0, .ref mts, .ref mtz, .ref mtn, .ref mh, .ref mhn, .ref mhw, .ref mhz, .ref mhr, .ref mcl, .ref mtp, .int 0, .int 0, .int 0, .int 0, .int 0, .int 0, .int 0, .int 0, .int 0, .int 0, .int 0, .ref mna, .ref mpi, .ref mca, .ref mwa, .int 0, .ref mrd])), (ms, .inl (kms, 3047, .inl f993))] [(kcl, .int), (kms, .int)] H39 locs40 := Z41
      clear Z41
      refine lv_aload_n hx hb dX7_wider_56 rfl (lv_at hl35 2 rfl) ?_
      refine lv_iload_n hx hb dX7_wider_57 rfl (lv_at hl35 4 rfl) ?_
      refine zz_cv (WC := [(mo, .inr (7, [.ref ms, .ref mi, .ref ma, .int 0, .ref mts, .ref mtz, .ref mtn, .ref mh, .ref mhn, .ref mhw, .ref mhz, .ref mhr, .ref mcl, .ref mtp, .int 0, .int 0, .int 0, .int 0, .int 0, .int 0, .int 0, .int 0, .int 0, .int 0, .int 0, .ref mna, .ref mpi, .ref mca, .ref mwa, .int 0, .ref mrd])), (ms, .inl (kms, 3047, .inl f993))]) (TC := [(kms, .int)]) (WR := [(mcl, .inl (kcl, 47, .inl c912))]) (TR := [(kcl, .int)]) (k := 0) (n := 0) Z42 [1, 2] [0] [1] [0] rfl rfl (by decide +kernel) (by decide +kernel) (by decide +kernel) rfl rfl (fun Zc => va_runV (As := [.int (nI N)]) (rest := []) X (c7_many l D mo ms mi ma mts mtz mtn mh mhn mhw mhz mhr mcl mtp mna mpi mca mwa mrd 0 0 0 0 0 0 0 0 0 0 0 0 0 kms f993 0 0 0 0 0 1 (zz_hw 0 (12 - 5)) 5 10 N p94 p95 p96 p97 p98 p99 p100 p101 p102 p103 p104 (by omega) H39.size) (cwV 1 hts gX7_wider_X7_goesOnMany rfl rfl rfl ⟨rfl, zh_X7_goesOnMany⟩ ⟨Nat.le_of_ble_eq_true rfl, Nat.le_of_ble_eq_true rfl⟩) (zz_pV (ci := 7) Zc 0 rfl rfl) rfl rfl hl35.1 rfl (lv_room (Nat.le_of_ble_eq_true rfl)) dX7_wider_58 ⟨Nat.le_of_ble_eq_true rfl, Nat.le_of_ble_eq_true rfl⟩) rfl rfl (fun u106 H43 locs44 hw107 Z45 => ?_)
      clear Z42
      obtain ⟨f9109, F9110, T9111, Z9112, H9113⟩ := u106
      try dsimp only at hw107 Z45
      obtain ⟨⟨p114, p115, p116, p117, p118, p119, p120, p121, p122, p123, p124⟩, hx125⟩ := hw107
      have Z46 : zz_S D A s [(mcl, .inl (kcl, 47, .inl c912)), (mo, .inr (7, [.ref ms, .ref mi, .ref ma, .int 0, .ref mts, .ref mtz, .ref mtn, .ref mh, .ref mhn, .ref mhw, .ref mhz, .ref mhr, .ref mcl, .ref mtp, .int 0, .int 0, .int 0, .int 0, .int 0, .int 0, .int 0, .int 0, .int 0, .int 0, .int 0, .ref mna, .ref mpi, .ref mca, .ref mwa, .int 0, .ref mrd])), (ms, .inl (kms, 3047, .inl f9109))] [(kcl, .int), (kms, .int)] H43 locs44 := Z45
      clear Z45
      refine lv_aload_n hx hb dX7_wider_61 rfl (lv_at hl35 2 rfl) ?_
      refine zz_get X Z46 1 rfl rfl (fun w h => List.mem_cons_of_mem _ (List.mem_append_right _ h)) 0 rfl (zz_m 4 rfl) rfl dX7_wider_62 ?_
      refine lv_iconst (v := 4) hx hb dX7_wider_65 (by decide) ?_
      refine zz_ild X Z46 2 1 rfl rfl (zz_in 4 3047 rfl) dX7_wider_66 ?_
      refine zz_v (v := 0) p118 ?_
      refine lv_iload_n hx hb dX7_wider_67 rfl (lv_at hl35 3 rfl) ?_
      refine lv_icmp_gt (tgt := 76) hx hb dX7_wider_68 (by decide) (fun h => absurd h (Int32.not_lt.mpr w4.1)) (fun _ => ?_)
      refine lv_iload hx hb dX7_wider_71 (lv_at hl35 0 rfl) ?_
      refine lv_goto (tgt := 77) hx hb dX7_wider_73 (by decide) ?_
      refine lv_istore_n (lv' := [(3, .int 5), (4, .int 5), (0, .ref mo), (1, .int ww), (2, .int (nI N))]) hx hb dX7_wider_77 rfl hl35 (by decide) rfl (fun ls47 hl48 => ?_)
      clear hl35
      refine lv_aload_n hx hb dX7_wider_78 rfl (lv_at hl48 2 rfl) ?_
      refine zz_cv (WC := [(mo, .inr (7, [.ref ms, .ref mi, .ref ma, .int 0, .ref mts, .ref mtz, .ref mtn, .ref mh, .ref mhn, .ref mhw, .ref mhz, .ref mhr, .ref mcl, .ref mtp, .int 0, .int 0, .int 0, .int 0, .int 0, .int 0, .int 0, .int 0, .int 0, .int 0, .int 0, .ref mna, .ref mpi, .ref mca, .ref mwa, .int 0, .ref mrd])), (ms, .inl (kms, 3047, .inl f9109)), (mcl, .inl (kcl, 47, .inl c912))]) (TC := [(kms, .int), (kcl, .int)]) (WR := []) (TR := []) (k := 0) (n := 0) Z46 [1, 2, 0] [] [1, 0] [] rfl rfl (by decide +kernel) (by decide +kernel) (by decide +kernel) rfl rfl (fun Zc => va_runV (As := []) (rest := []) X (c7_laysBack l D mo ms mi ma mts mtz mtn mh mhn mhw mhz mhr mcl mtp mna mpi mca mwa mrd 0 0 0 0 0 0 0 0 0 0 0 0 0 kms f9109 kcl c912 H43.size) (cwV 0 hts gX7_wider_X7_laysBack rfl rfl rfl ⟨rfl, zh_X7_laysBack⟩ ⟨Nat.le_of_ble_eq_true rfl, Nat.le_of_ble_eq_true rfl⟩) (zz_pV (ci := 7) Zc 0 rfl rfl) rfl rfl hl48.1 rfl (lv_room (Nat.le_of_ble_eq_true rfl)) dX7_wider_79 ⟨Nat.le_of_ble_eq_true rfl, Nat.le_of_ble_eq_true rfl⟩) rfl rfl (fun u126 H49 locs50 hw127 Z51 => ?_)
      clear Z46
      obtain ⟨f9129, rfl⟩ : ∃ z, z = u126 := ⟨_, rfl⟩
      try dsimp only at hw127 Z51
      have Z52 : zz_S D A s [(mo, .inr (7, [.ref ms, .ref mi, .ref ma, .int 0, .ref mts, .ref mtz, .ref mtn, .ref mh, .ref mhn, .ref mhw, .ref mhz, .ref mhr, .ref mcl, .ref mtp, .int 0, .int 0, .int 0, .int 0, .int 0, .int 0, .int 0, .int 0, .int 0, .int 0, .int 0, .ref mna, .ref mpi, .ref mca, .ref mwa, .int 0, .ref mrd])), (ms, .inl (kms, 3047, .inl f9129)), (mcl, .inl (kcl, 47, .inl c912))] [(kms, .int), (kcl, .int)] H49 locs50 := Z51
      clear Z51
      have p130 : f9129 0 = 0 := (hw127 0 (by decide)).trans ((hw10 0 (by decide)).trans af_0)
      have p131 : f9129 1 = 0 := (hw127 1 (by decide)).trans ((hw10 1 (by decide)).trans af_1)
      have p132 : f9129 2 = 0 := (hw127 2 (by decide)).trans ((hw10 2 (by decide)).trans af_2)
      have p133 : f9129 3 = 0 := (hw127 3 (by decide)).trans ((hw10 3 (by decide)).trans af_3)
      have p134 : f9129 4 = 0 := (hw127 4 (by decide)).trans ((hw10 4 (by decide)).trans af_4)
      have p135 : f9129 5 = 0 := (hw127 5 (by decide)).trans ((hw10 5 (by decide)).trans af_5)
      have p136 : f9129 6 = 1 := (hw127 6 (by decide)).trans ((hw10 6 (by decide)).trans af_6)
      have p137 : f9129 7 = 0 := (hw127 7 (by decide)).trans ((hw10 7 (by decide)).trans af_7)
      have p138 : f9129 8 = 3 := (hw127 8 (by decide)).trans ((hw10 8 (by decide)).trans af_8)
      have p139 : f9129 9 = 10 := (hw127 9 (by decide)).trans ((hw10 9 (by decide)).trans af_9)
      have p140 : f9129 10 = 0 := (hw127 10 (by decide)).trans ((hw10 10 (by decide)).trans af_10)
      refine lv_iinc (v := 4) (lv' := [(4, .int 4), (3, .int 5), (0, .ref mo), (1, .int ww), (2, .int (nI N))]) hx hb dX7_wider_82 hl48 (k := 1) rfl (by decide) (by decide) rfl (fun ls53 hl54 => ?_)
      clear hl48
      refine lv_goto (tgt := 37) hx hb dX7_wider_85 (by decide) ?_
      refine lv_iload hx hb dX7_wider_37 (lv_at hl54 0 rfl) ?_
      refine lv_iconst (v := 1) hx hb dX7_wider_39 (by decide) ?_
      refine lv_icmp_lt (tgt := 88) hx hb dX7_wider_40 (by decide) (fun h => absurd h (by decide)) (fun _ => ?_)
      refine lv_aload_n hx hb dX7_wider_43 rfl (lv_at hl54 2 rfl) ?_
      refine zz_get X Z52 0 rfl rfl (fun w h => List.mem_cons_of_mem _ (List.mem_append_right _ h)) 0 rfl (zz_m 4 rfl) rfl dX7_wider_44 ?_
      refine lv_bipush (v := 8) hx hb dX7_wider_47 (by decide) ?_
      refine lv_iload hx hb dX7_wider_49 (lv_at hl54 0 rfl) ?_
      refine zz_istN (WS' := fun f141 => [(mo, .inr (7, [.ref ms, .ref mi, .ref ma, .int 0, .ref mts, .ref mtz, .ref mtn, .ref mh, .ref mhn, .ref mhw, .ref mhz, .ref mhr, .ref mcl, .ref mtp, .int 0, .int 0, .int 0, .int 0, .int 0, .int 0, .int 0, .int 0, .int 0, .int 0, .int 0, .ref mna, .ref mpi, .ref mca, .ref mwa, .int 0, .ref mrd])), (ms, .inl (kms, 3047, .inl f141)), (mcl, .inl (kcl, 47, .inl c912))]) X Z52 1 0 rfl rfl (zz_in 8 3047 rfl) dX7_wider_51 (fun _ => rfl) (fun f141 ef142 H55 locs56 Z57 => ?_)
      clear Z52
      have p143 : f141 8 = 4 := (by rw [ef142]; rfl)
      have p144 : f141 0 = 0 := (by rw [ef142]; exact p130)
      have p145 : f141 1 = 0 := (by rw [ef142]; exact p131)
      have p146 : f141 2 = 0 := (by rw [ef142]; exact p132)
      have p147 : f141 3 = 0 := (by rw [ef142]; exact p133)
      have p148 : f141 4 = 0 := (by rw [ef142]; exact p134)
      have p149 : f141 5 = 0 := (by rw [ef142]; exact p135)
      have p150 : f141 6 = 1 := (by rw [ef142]; exact p136)
      have p151 : f141 7 = 0 := (by rw [ef142]; exact p137)
      have p152 : f141 9 = 10 := (by rw [ef142]; exact p139)
      have p153 : f141 10 = 0 := (by rw [ef142]; exact p140)
      refine lv_aload_n hx hb dX7_wider_52 rfl (lv_at hl54 2 rfl) ?_
      refine zz_cv (WC := [(mo, .inr (7, [.ref ms, .ref mi, .ref ma, .int 0, .ref mts, .ref mtz, .ref mtn, .ref mh, .ref mhn, .ref mhw, .ref mhz, .ref mhr, .ref mcl, .ref mtp, .int 0, .int 0, .int 0, .int 0, .int 0, .int 0, .int 0, .int 0, .int 0, .int 0, .int 0, .ref mna, .ref mpi, .ref mca, .ref mwa, .int 0, .ref mrd])), (ms, .inl (kms, 3047, .inl f141))]) (TC := [(kms, .int)]) (WR := [(mcl, .inl (kcl, 47, .inl c912))]) (TR := [(kcl, .int)]) (k := 0) (n := 0) Z57 [0, 1] [2] [0] [1] rfl rfl (by decide +kernel) (by decide +kernel) (by decide +kernel) rfl rfl (fun Zc => va_runV (As := []) (rest := []) X (c7_holds l D mo ms mi ma mts mtz mtn mh mhn mhw mhz mhr mcl mtp mna mpi mca mwa mrd 0 0 0 0 0 0 0 0 0 0 0 0 0 kms f141 0 0 0 0 0 0 1 0 4 10 0 p144 p145 p146 p147 p148 p149 p150 p151 p143 p152 p153 H55.size) (cwV 0 hts gX7_wider_X7_holds rfl rfl rfl ⟨rfl, zh_X7_holds⟩ ⟨Nat.le_of_ble_eq_true rfl, Nat.le_of_ble_eq_true rfl⟩) (zz_pV (ci := 7) Zc 0 rfl rfl) rfl rfl hl54.1 rfl (lv_room (Nat.le_of_ble_eq_true rfl)) dX7_wider_53 ⟨Nat.le_of_ble_eq_true rfl, Nat.le_of_ble_eq_true rfl⟩) rfl rfl (fun u154 H58 locs59 hw155 Z60 => ?_)
      clear Z57
      obtain ⟨f9157, rfl⟩ : ∃ z, z = u154 := ⟨_, rfl⟩
      try dsimp only at hw155 Z60
      obtain ⟨⟨p158, p159, p160, p161, p162, p163, p164, p165, p166, p167, p168⟩, hx169⟩ := hw155
      have Z61 : zz_S D A s [(mcl, .inl (kcl, 47, .inl c912)), (mo, .inr (7, [.ref ms, .ref mi, .ref ma, .int 0, .ref mts, .ref mtz, .ref mtn, .ref mh, .ref mhn, .ref mhw, .ref mhz, .ref mhr, .ref mcl, .ref mtp, .int 0, .int 0, .int 0, .int 0, .int 0, .int 0, .int 0, .int 0, .int 0, .int 0, .int 0, .ref mna, .ref mpi, .ref mca, .ref mwa, .int 0, .ref mrd])), (ms, .inl (kms, 3047, .inl f9157))] [(kcl, .int), (kms, .int)] H58 locs59 := Z60
      clear Z60
      refine lv_aload_n hx hb dX7_wider_56 rfl (lv_at hl54 2 rfl) ?_
      refine lv_iload_n hx hb dX7_wider_57 rfl (lv_at hl54 4 rfl) ?_
      refine zz_cv (WC := [(mo, .inr (7, [.ref ms, .ref mi, .ref ma, .int 0, .ref mts, .ref mtz, .ref mtn, .ref mh, .ref mhn, .ref mhw, .ref mhz, .ref mhr, .ref mcl, .ref mtp, .int 0, .int 0, .int 0, .int 0, .int 0, .int 0, .int 0, .int 0, .int 0, .int 0, .int 0, .ref mna, .ref mpi, .ref mca, .ref mwa, .int 0, .ref mrd])), (ms, .inl (kms, 3047, .inl f9157))]) (TC := [(kms, .int)]) (WR := [(mcl, .inl (kcl, 47, .inl c912))]) (TR := [(kcl, .int)]) (k := 0) (n := 0) Z61 [1, 2] [0] [1] [0] rfl rfl (by decide +kernel) (by decide +kernel) (by decide +kernel) rfl rfl (fun Zc => va_runV (As := [.int (nI N)]) (rest := []) X (c7_many l D mo ms mi ma mts mtz mtn mh mhn mhw mhz mhr mcl mtp mna mpi mca mwa mrd 0 0 0 0 0 0 0 0 0 0 0 0 0 kms f9157 0 0 0 0 0 1 (zz_hw 0 (12 - 4)) 4 10 N p158 p159 p160 p161 p162 p163 p164 p165 p166 p167 p168 (by omega) H58.size) (cwV 1 hts gX7_wider_X7_goesOnMany rfl rfl rfl ⟨rfl, zh_X7_goesOnMany⟩ ⟨Nat.le_of_ble_eq_true rfl, Nat.le_of_ble_eq_true rfl⟩) (zz_pV (ci := 7) Zc 0 rfl rfl) rfl rfl hl54.1 rfl (lv_room (Nat.le_of_ble_eq_true rfl)) dX7_wider_58 ⟨Nat.le_of_ble_eq_true rfl, Nat.le_of_ble_eq_true rfl⟩) rfl rfl (fun u170 H62 locs63 hw171 Z64 => ?_)
      clear Z61
      obtain ⟨f9173, F9174, T9175, Z9176, H9177⟩ := u170
      try dsimp only at hw171 Z64
      obtain ⟨⟨p178, p179, p180, p181, p182, p183, p184, p185, p186, p187, p188⟩, hx189⟩ := hw171
      have Z65 : zz_S D A s [(mcl, .inl (kcl, 47, .inl c912)), (mo, .inr (7, [.ref ms, .ref mi, .ref ma, .int 0, .ref mts, .ref mtz, .ref mtn, .ref mh, .ref mhn, .ref mhw, .ref mhz, .ref mhr, .ref mcl, .ref mtp, .int 0, .int 0, .int 0, .int 0, .int 0, .int 0, .int 0, .int 0, .int 0, .int 0, .int 0, .ref mna, .ref mpi, .ref mca, .ref mwa, .int 0, .ref mrd])), (ms, .inl (kms, 3047, .inl f9173))] [(kcl, .int), (kms, .int)] H62 locs63 := Z64
      clear Z64
      refine lv_aload_n hx hb dX7_wider_61 rfl (lv_at hl54 2 rfl) ?_
      refine zz_get X Z65 1 rfl rfl (fun w h => List.mem_cons_of_mem _ (List.mem_append_right _ h)) 0 rfl (zz_m 4 rfl) rfl dX7_wider_62 ?_
      refine lv_iconst (v := 4) hx hb dX7_wider_65 (by decide) ?_
      refine zz_ild X Z65 2 1 rfl rfl (zz_in 4 3047 rfl) dX7_wider_66 ?_
      refine zz_v (v := 0) p182 ?_
      refine lv_iload_n hx hb dX7_wider_67 rfl (lv_at hl54 3 rfl) ?_
      refine lv_icmp_gt (tgt := 76) hx hb dX7_wider_68 (by decide) (fun h => absurd h (Int32.not_lt.mpr w4.1)) (fun _ => ?_)
      refine lv_iload hx hb dX7_wider_71 (lv_at hl54 0 rfl) ?_
      refine lv_goto (tgt := 77) hx hb dX7_wider_73 (by decide) ?_
      refine lv_istore_n (lv' := [(3, .int 4), (4, .int 4), (0, .ref mo), (1, .int ww), (2, .int (nI N))]) hx hb dX7_wider_77 rfl hl54 (by decide) rfl (fun ls66 hl67 => ?_)
      clear hl54
      refine lv_aload_n hx hb dX7_wider_78 rfl (lv_at hl67 2 rfl) ?_
      refine zz_cv (WC := [(mo, .inr (7, [.ref ms, .ref mi, .ref ma, .int 0, .ref mts, .ref mtz, .ref mtn, .ref mh, .ref mhn, .ref mhw, .ref mhz, .ref mhr, .ref mcl, .ref mtp, .int 0, .int 0, .int 0, .int 0, .int 0, .int 0, .int 0, .int 0, .int 0, .int 0, .int 0, .ref mna, .ref mpi, .ref mca, .ref mwa, .int 0, .ref mrd])), (ms, .inl (kms, 3047, .inl f9173)), (mcl, .inl (kcl, 47, .inl c912))]) (TC := [(kms, .int), (kcl, .int)]) (WR := []) (TR := []) (k := 0) (n := 0) Z65 [1, 2, 0] [] [1, 0] [] rfl rfl (by decide +kernel) (by decide +kernel) (by decide +kernel) rfl rfl (fun Zc => va_runV (As := []) (rest := []) X (c7_laysBack l D mo ms mi ma mts mtz mtn mh mhn mhw mhz mhr mcl mtp mna mpi mca mwa mrd 0 0 0 0 0 0 0 0 0 0 0 0 0 kms f9173 kcl c912 H62.size) (cwV 0 hts gX7_wider_X7_laysBack rfl rfl rfl ⟨rfl, zh_X7_laysBack⟩ ⟨Nat.le_of_ble_eq_true rfl, Nat.le_of_ble_eq_true rfl⟩) (zz_pV (ci := 7) Zc 0 rfl rfl) rfl rfl hl67.1 rfl (lv_room (Nat.le_of_ble_eq_true rfl)) dX7_wider_79 ⟨Nat.le_of_ble_eq_true rfl, Nat.le_of_ble_eq_true rfl⟩) rfl rfl (fun u190 H68 locs69 hw191 Z70 => ?_)
      clear Z65
      obtain ⟨f9193, rfl⟩ : ∃ z, z = u190 := ⟨_, rfl⟩
      try dsimp only at hw191 Z70
      have Z71 : zz_S D A s [(mo, .inr (7, [.ref ms, .ref mi, .ref ma, .int 0, .ref mts, .ref mtz, .ref mtn, .ref mh, .ref mhn, .ref mhw, .ref mhz, .ref mhr, .ref mcl, .ref mtp, .int 0, .int 0, .int 0, .int 0, .int 0, .int 0, .int 0, .int 0, .int 0, .int 0, .int 0, .ref mna, .ref mpi, .ref mca, .ref mwa, .int 0, .ref mrd])), (ms, .inl (kms, 3047, .inl f9193)), (mcl, .inl (kcl, 47, .inl c912))] [(kms, .int), (kcl, .int)] H68 locs69 := Z70
      clear Z70
      have p194 : f9193 0 = 0 := (hw191 0 (by decide)).trans ((hw10 0 (by decide)).trans af_0)
      have p195 : f9193 1 = 0 := (hw191 1 (by decide)).trans ((hw10 1 (by decide)).trans af_1)
      have p196 : f9193 2 = 0 := (hw191 2 (by decide)).trans ((hw10 2 (by decide)).trans af_2)
      have p197 : f9193 3 = 0 := (hw191 3 (by decide)).trans ((hw10 3 (by decide)).trans af_3)
      have p198 : f9193 4 = 0 := (hw191 4 (by decide)).trans ((hw10 4 (by decide)).trans af_4)
      have p199 : f9193 5 = 0 := (hw191 5 (by decide)).trans ((hw10 5 (by decide)).trans af_5)
      have p200 : f9193 6 = 1 := (hw191 6 (by decide)).trans ((hw10 6 (by decide)).trans af_6)
      have p201 : f9193 7 = 0 := (hw191 7 (by decide)).trans ((hw10 7 (by decide)).trans af_7)
      have p202 : f9193 8 = 3 := (hw191 8 (by decide)).trans ((hw10 8 (by decide)).trans af_8)
      have p203 : f9193 9 = 10 := (hw191 9 (by decide)).trans ((hw10 9 (by decide)).trans af_9)
      have p204 : f9193 10 = 0 := (hw191 10 (by decide)).trans ((hw10 10 (by decide)).trans af_10)
      refine lv_iinc (v := 3) (lv' := [(4, .int 3), (3, .int 4), (0, .ref mo), (1, .int ww), (2, .int (nI N))]) hx hb dX7_wider_82 hl67 (k := 1) rfl (by decide) (by decide) rfl (fun ls72 hl73 => ?_)
      clear hl67
      refine lv_goto (tgt := 37) hx hb dX7_wider_85 (by decide) ?_
      refine lv_iload hx hb dX7_wider_37 (lv_at hl73 0 rfl) ?_
      refine lv_iconst (v := 1) hx hb dX7_wider_39 (by decide) ?_
      refine lv_icmp_lt (tgt := 88) hx hb dX7_wider_40 (by decide) (fun h => absurd h (by decide)) (fun _ => ?_)
      refine lv_aload_n hx hb dX7_wider_43 rfl (lv_at hl73 2 rfl) ?_
      refine zz_get X Z71 0 rfl rfl (fun w h => List.mem_cons_of_mem _ (List.mem_append_right _ h)) 0 rfl (zz_m 4 rfl) rfl dX7_wider_44 ?_
      refine lv_bipush (v := 8) hx hb dX7_wider_47 (by decide) ?_
      refine lv_iload hx hb dX7_wider_49 (lv_at hl73 0 rfl) ?_
      refine zz_istN (WS' := fun f205 => [(mo, .inr (7, [.ref ms, .ref mi, .ref ma, .int 0, .ref mts, .ref mtz, .ref mtn, .ref mh, .ref mhn, .ref mhw, .ref mhz, .ref mhr, .ref mcl, .ref mtp, .int 0, .int 0, .int 0, .int 0, .int 0, .int 0, .int 0, .int 0, .int 0, .int 0, .int 0, .ref mna, .ref mpi, .ref mca, .ref mwa, .int 0, .ref mrd])), (ms, .inl (kms, 3047, .inl f205)), (mcl, .inl (kcl, 47, .inl c912))]) X Z71 1 0 rfl rfl (zz_in 8 3047 rfl) dX7_wider_51 (fun _ => rfl) (fun f205 ef206 H74 locs75 Z76 => ?_)
      clear Z71
      have p207 : f205 8 = 3 := (by rw [ef206]; rfl)
      have p208 : f205 0 = 0 := (by rw [ef206]; exact p194)
      have p209 : f205 1 = 0 := (by rw [ef206]; exact p195)
      have p210 : f205 2 = 0 := (by rw [ef206]; exact p196)
      have p211 : f205 3 = 0 := (by rw [ef206]; exact p197)
      have p212 : f205 4 = 0 := (by rw [ef206]; exact p198)
      have p213 : f205 5 = 0 := (by rw [ef206]; exact p199)
      have p214 : f205 6 = 1 := (by rw [ef206]; exact p200)
      have p215 : f205 7 = 0 := (by rw [ef206]; exact p201)
      have p216 : f205 9 = 10 := (by rw [ef206]; exact p203)
      have p217 : f205 10 = 0 := (by rw [ef206]; exact p204)
      refine lv_aload_n hx hb dX7_wider_52 rfl (lv_at hl73 2 rfl) ?_
      refine zz_cv (WC := [(mo, .inr (7, [.ref ms, .ref mi, .ref ma, .int 0, .ref mts, .ref mtz, .ref mtn, .ref mh, .ref mhn, .ref mhw, .ref mhz, .ref mhr, .ref mcl, .ref mtp, .int 0, .int 0, .int 0, .int 0, .int 0, .int 0, .int 0, .int 0, .int 0, .int 0, .int 0, .ref mna, .ref mpi, .ref mca, .ref mwa, .int 0, .ref mrd])), (ms, .inl (kms, 3047, .inl f205))]) (TC := [(kms, .int)]) (WR := [(mcl, .inl (kcl, 47, .inl c912))]) (TR := [(kcl, .int)]) (k := 0) (n := 0) Z76 [0, 1] [2] [0] [1] rfl rfl (by decide +kernel) (by decide +kernel) (by decide +kernel) rfl rfl (fun Zc => va_runV (As := []) (rest := []) X (c7_holds l D mo ms mi ma mts mtz mtn mh mhn mhw mhz mhr mcl mtp mna mpi mca mwa mrd 0 0 0 0 0 0 0 0 0 0 0 0 0 kms f205 0 0 0 0 0 0 1 0 3 10 0 p208 p209 p210 p211 p212 p213 p214 p215 p207 p216 p217 H74.size) (cwV 0 hts gX7_wider_X7_holds rfl rfl rfl ⟨rfl, zh_X7_holds⟩ ⟨Nat.le_of_ble_eq_true rfl, Nat.le_of_ble_eq_true rfl⟩) (zz_pV (ci := 7) Zc 0 rfl rfl) rfl rfl hl73.1 rfl (lv_room (Nat.le_of_ble_eq_true rfl)) dX7_wider_53 ⟨Nat.le_of_ble_eq_true rfl, Nat.le_of_ble_eq_true rfl⟩) rfl rfl (fun u218 H77 locs78 hw219 Z79 => ?_)
      clear Z76
      obtain ⟨f9221, rfl⟩ : ∃ z, z = u218 := ⟨_, rfl⟩
      try dsimp only at hw219 Z79
      obtain ⟨⟨p222, p223, p224, p225, p226, p227, p228, p229, p230, p231, p232⟩, hx233⟩ := hw219
      have Z80 : zz_S D A s [(mcl, .inl (kcl, 47, .inl c912)), (mo, .inr (7, [.ref ms, .ref mi, .ref ma, .int 0, .ref mts, .ref mtz, .ref mtn, .ref mh, .ref mhn, .ref mhw, .ref mhz, .ref mhr, .ref mcl, .ref mtp, .int 0, .int 0, .int 0, .int 0, .int 0, .int 0, .int 0, .int 0, .int 0, .int 0, .int 0, .ref mna, .ref mpi, .ref mca, .ref mwa, .int 0, .ref mrd])), (ms, .inl (kms, 3047, .inl f9221))] [(kcl, .int), (kms, .int)] H77 locs78 := Z79
      clear Z79
      refine lv_aload_n hx hb dX7_wider_56 rfl (lv_at hl73 2 rfl) ?_
      refine lv_iload_n hx hb dX7_wider_57 rfl (lv_at hl73 4 rfl) ?_
      refine zz_cv (WC := [(mo, .inr (7, [.ref ms, .ref mi, .ref ma, .int 0, .ref mts, .ref mtz, .ref mtn, .ref mh, .ref mhn, .ref mhw, .ref mhz, .ref mhr, .ref mcl, .ref mtp, .int 0, .int 0, .int 0, .int 0, .int 0, .int 0, .int 0, .int 0, .int 0, .int 0, .int 0, .ref mna, .ref mpi, .ref mca, .ref mwa, .int 0, .ref mrd])), (ms, .inl (kms, 3047, .inl f9221))]) (TC := [(kms, .int)]) (WR := [(mcl, .inl (kcl, 47, .inl c912))]) (TR := [(kcl, .int)]) (k := 0) (n := 0) Z80 [1, 2] [0] [1] [0] rfl rfl (by decide +kernel) (by decide +kernel) (by decide +kernel) rfl rfl (fun Zc => va_runV (As := [.int (nI N)]) (rest := []) X (c7_many l D mo ms mi ma mts mtz mtn mh mhn mhw mhz mhr mcl mtp mna mpi mca mwa mrd 0 0 0 0 0 0 0 0 0 0 0 0 0 kms f9221 0 0 0 0 0 1 (zz_hw 0 (12 - 3)) 3 10 N p222 p223 p224 p225 p226 p227 p228 p229 p230 p231 p232 (by omega) H77.size) (cwV 1 hts gX7_wider_X7_goesOnMany rfl rfl rfl ⟨rfl, zh_X7_goesOnMany⟩ ⟨Nat.le_of_ble_eq_true rfl, Nat.le_of_ble_eq_true rfl⟩) (zz_pV (ci := 7) Zc 0 rfl rfl) rfl rfl hl73.1 rfl (lv_room (Nat.le_of_ble_eq_true rfl)) dX7_wider_58 ⟨Nat.le_of_ble_eq_true rfl, Nat.le_of_ble_eq_true rfl⟩) rfl rfl (fun u234 H81 locs82 hw235 Z83 => ?_)
      clear Z80
      obtain ⟨f9237, F9238, T9239, Z9240, H9241⟩ := u234
      try dsimp only at hw235 Z83
      obtain ⟨⟨p242, p243, p244, p245, p246, p247, p248, p249, p250, p251, p252⟩, hx253⟩ := hw235
      have Z84 : zz_S D A s [(mcl, .inl (kcl, 47, .inl c912)), (mo, .inr (7, [.ref ms, .ref mi, .ref ma, .int 0, .ref mts, .ref mtz, .ref mtn, .ref mh, .ref mhn, .ref mhw, .ref mhz, .ref mhr, .ref mcl, .ref mtp, .int 0, .int 0, .int 0, .int 0, .int 0, .int 0, .int 0, .int 0, .int 0, .int 0, .int 0, .ref mna, .ref mpi, .ref mca, .ref mwa, .int 0, .ref mrd])), (ms, .inl (kms, 3047, .inl f9237))] [(kcl, .int), (kms, .int)] H81 locs82 := Z83
      clear Z83
      refine lv_aload_n hx hb dX7_wider_61 rfl (lv_at hl73 2 rfl) ?_
      refine zz_get X Z84 1 rfl rfl (fun w h => List.mem_cons_of_mem _ (List.mem_append_right _ h)) 0 rfl (zz_m 4 rfl) rfl dX7_wider_62 ?_
      refine lv_iconst (v := 4) hx hb dX7_wider_65 (by decide) ?_
      refine zz_ild X Z84 2 1 rfl rfl (zz_in 4 3047 rfl) dX7_wider_66 ?_
      refine zz_v (v := 0) p246 ?_
      refine lv_iload_n hx hb dX7_wider_67 rfl (lv_at hl73 3 rfl) ?_
      refine lv_icmp_gt (tgt := 76) hx hb dX7_wider_68 (by decide) (fun h => absurd h (Int32.not_lt.mpr w4.1)) (fun _ => ?_)
      refine lv_iload hx hb dX7_wider_71 (lv_at hl73 0 rfl) ?_
      refine lv_goto (tgt := 77) hx hb dX7_wider_73 (by decide) ?_
      refine lv_istore_n (lv' := [(3, .int 3), (4, .int 3), (0, .ref mo), (1, .int ww), (2, .int (nI N))]) hx hb dX7_wider_77 rfl hl73 (by decide) rfl (fun ls85 hl86 => ?_)
      clear hl73
      refine lv_aload_n hx hb dX7_wider_78 rfl (lv_at hl86 2 rfl) ?_
      refine zz_cv (WC := [(mo, .inr (7, [.ref ms, .ref mi, .ref ma, .int 0, .ref mts, .ref mtz, .ref mtn, .ref mh, .ref mhn, .ref mhw, .ref mhz, .ref mhr, .ref mcl, .ref mtp, .int 0, .int 0, .int 0, .int 0, .int 0, .int 0, .int 0, .int 0, .int 0, .int 0, .int 0, .ref mna, .ref mpi, .ref mca, .ref mwa, .int 0, .ref mrd])), (ms, .inl (kms, 3047, .inl f9237)), (mcl, .inl (kcl, 47, .inl c912))]) (TC := [(kms, .int), (kcl, .int)]) (WR := []) (TR := []) (k := 0) (n := 0) Z84 [1, 2, 0] [] [1, 0] [] rfl rfl (by decide +kernel) (by decide +kernel) (by decide +kernel) rfl rfl (fun Zc => va_runV (As := []) (rest := []) X (c7_laysBack l D mo ms mi ma mts mtz mtn mh mhn mhw mhz mhr mcl mtp mna mpi mca mwa mrd 0 0 0 0 0 0 0 0 0 0 0 0 0 kms f9237 kcl c912 H81.size) (cwV 0 hts gX7_wider_X7_laysBack rfl rfl rfl ⟨rfl, zh_X7_laysBack⟩ ⟨Nat.le_of_ble_eq_true rfl, Nat.le_of_ble_eq_true rfl⟩) (zz_pV (ci := 7) Zc 0 rfl rfl) rfl rfl hl86.1 rfl (lv_room (Nat.le_of_ble_eq_true rfl)) dX7_wider_79 ⟨Nat.le_of_ble_eq_true rfl, Nat.le_of_ble_eq_true rfl⟩) rfl rfl (fun u254 H87 locs88 hw255 Z89 => ?_)
      clear Z84
      obtain ⟨f9257, rfl⟩ : ∃ z, z = u254 := ⟨_, rfl⟩
      try dsimp only at hw255 Z89
      have Z90 : zz_S D A s [(mo, .inr (7, [.ref ms, .ref mi, .ref ma, .int 0, .ref mts, .ref mtz, .ref mtn, .ref mh, .ref mhn, .ref mhw, .ref mhz, .ref mhr, .ref mcl, .ref mtp, .int 0, .int 0, .int 0, .int 0, .int 0, .int 0, .int 0, .int 0, .int 0, .int 0, .int 0, .ref mna, .ref mpi, .ref mca, .ref mwa, .int 0, .ref mrd])), (ms, .inl (kms, 3047, .inl f9257)), (mcl, .inl (kcl, 47, .inl c912))] [(kms, .int), (kcl, .int)] H87 locs88 := Z89
      clear Z89
      have p258 : f9257 0 = 0 := (hw255 0 (by decide)).trans ((hw10 0 (by decide)).trans af_0)
      have p259 : f9257 1 = 0 := (hw255 1 (by decide)).trans ((hw10 1 (by decide)).trans af_1)
      have p260 : f9257 2 = 0 := (hw255 2 (by decide)).trans ((hw10 2 (by decide)).trans af_2)
      have p261 : f9257 3 = 0 := (hw255 3 (by decide)).trans ((hw10 3 (by decide)).trans af_3)
      have p262 : f9257 4 = 0 := (hw255 4 (by decide)).trans ((hw10 4 (by decide)).trans af_4)
      have p263 : f9257 5 = 0 := (hw255 5 (by decide)).trans ((hw10 5 (by decide)).trans af_5)
      have p264 : f9257 6 = 1 := (hw255 6 (by decide)).trans ((hw10 6 (by decide)).trans af_6)
      have p265 : f9257 7 = 0 := (hw255 7 (by decide)).trans ((hw10 7 (by decide)).trans af_7)
      have p266 : f9257 8 = 3 := (hw255 8 (by decide)).trans ((hw10 8 (by decide)).trans af_8)
      have p267 : f9257 9 = 10 := (hw255 9 (by decide)).trans ((hw10 9 (by decide)).trans af_9)
      have p268 : f9257 10 = 0 := (hw255 10 (by decide)).trans ((hw10 10 (by decide)).trans af_10)
      refine lv_iinc (v := 2) (lv' := [(4, .int 2), (3, .int 3), (0, .ref mo), (1, .int ww), (2, .int (nI N))]) hx hb dX7_wider_82 hl86 (k := 1) rfl (by decide) (by decide) rfl (fun ls91 hl92 => ?_)
      clear hl86
      refine lv_goto (tgt := 37) hx hb dX7_wider_85 (by decide) ?_
      refine lv_iload hx hb dX7_wider_37 (lv_at hl92 0 rfl) ?_
      refine lv_iconst (v := 1) hx hb dX7_wider_39 (by decide) ?_
      refine lv_icmp_lt (tgt := 88) hx hb dX7_wider_40 (by decide) (fun h => absurd h (by decide)) (fun _ => ?_)
      refine lv_aload_n hx hb dX7_wider_43 rfl (lv_at hl92 2 rfl) ?_
      refine zz_get X Z90 0 rfl rfl (fun w h => List.mem_cons_of_mem _ (List.mem_append_right _ h)) 0 rfl (zz_m 4 rfl) rfl dX7_wider_44 ?_
      refine lv_bipush (v := 8) hx hb dX7_wider_47 (by decide) ?_
      refine lv_iload hx hb dX7_wider_49 (lv_at hl92 0 rfl) ?_
      refine zz_istN (WS' := fun f269 => [(mo, .inr (7, [.ref ms, .ref mi, .ref ma, .int 0, .ref mts, .ref mtz, .ref mtn, .ref mh, .ref mhn, .ref mhw, .ref mhz, .ref mhr, .ref mcl, .ref mtp, .int 0, .int 0, .int 0, .int 0, .int 0, .int 0, .int 0, .int 0, .int 0, .int 0, .int 0, .ref mna, .ref mpi, .ref mca, .ref mwa, .int 0, .ref mrd])), (ms, .inl (kms, 3047, .inl f269)), (mcl, .inl (kcl, 47, .inl c912))]) X Z90 1 0 rfl rfl (zz_in 8 3047 rfl) dX7_wider_51 (fun _ => rfl) (fun f269 ef270 H93 locs94 Z95 => ?_)
      clear Z90
      have p271 : f269 8 = 2 := (by rw [ef270]; rfl)
      have p272 : f269 0 = 0 := (by rw [ef270]; exact p258)
      have p273 : f269 1 = 0 := (by rw [ef270]; exact p259)
      have p274 : f269 2 = 0 := (by rw [ef270]; exact p260)
      have p275 : f269 3 = 0 := (by rw [ef270]; exact p261)
      have p276 : f269 4 = 0 := (by rw [ef270]; exact p262)
      have p277 : f269 5 = 0 := (by rw [ef270]; exact p263)
      have p278 : f269 6 = 1 := (by rw [ef270]; exact p264)
      have p279 : f269 7 = 0 := (by rw [ef270]; exact p265)
      have p280 : f269 9 = 10 := (by rw [ef270]; exact p267)
      have p281 : f269 10 = 0 := (by rw [ef270]; exact p268)
      refine lv_aload_n hx hb dX7_wider_52 rfl (lv_at hl92 2 rfl) ?_
      refine zz_cv (WC := [(mo, .inr (7, [.ref ms, .ref mi, .ref ma, .int 0, .ref mts, .ref mtz, .ref mtn, .ref mh, .ref mhn, .ref mhw, .ref mhz, .ref mhr, .ref mcl, .ref mtp, .int 0, .int 0, .int 0, .int 0, .int 0, .int 0, .int 0, .int 0, .int 0, .int 0, .int 0, .ref mna, .ref mpi, .ref mca, .ref mwa, .int 0, .ref mrd])), (ms, .inl (kms, 3047, .inl f269))]) (TC := [(kms, .int)]) (WR := [(mcl, .inl (kcl, 47, .inl c912))]) (TR := [(kcl, .int)]) (k := 0) (n := 0) Z95 [0, 1] [2] [0] [1] rfl rfl (by decide +kernel) (by decide +kernel) (by decide +kernel) rfl rfl (fun Zc => va_runV (As := []) (rest := []) X (c7_holds l D mo ms mi ma mts mtz mtn mh mhn mhw mhz mhr mcl mtp mna mpi mca mwa mrd 0 0 0 0 0 0 0 0 0 0 0 0 0 kms f269 0 0 0 0 0 0 1 0 2 10 0 p272 p273 p274 p275 p276 p277 p278 p279 p271 p280 p281 H93.size) (cwV 0 hts gX7_wider_X7_holds rfl rfl rfl ⟨rfl, zh_X7_holds⟩ ⟨Nat.le_of_ble_eq_true rfl, Nat.le_of_ble_eq_true rfl⟩) (zz_pV (ci := 7) Zc 0 rfl rfl) rfl rfl hl92.1 rfl (lv_room (Nat.le_of_ble_eq_true rfl)) dX7_wider_53 ⟨Nat.le_of_ble_eq_true rfl, Nat.le_of_ble_eq_true rfl⟩) rfl rfl (fun u282 H96 locs97 hw283 Z98 => ?_)
      clear Z95
      obtain ⟨f9285, rfl⟩ : ∃ z, z = u282 := ⟨_, rfl⟩
      try dsimp only at hw283 Z98
      obtain ⟨⟨p286, p287, p288, p289, p290, p291, p292, p293, p294, p295, p296⟩, hx297⟩ := hw283
      have Z99 : zz_S D A s [(mcl, .inl (kcl, 47, .inl c912)), (mo, .inr (7, [.ref ms, .ref mi, .ref ma, .int 0, .ref mts, .ref mtz, .ref mtn, .ref mh, .ref mhn, .ref mhw, .ref mhz, .ref mhr, .ref mcl, .ref mtp, .int 0, .int 0, .int 0, .int 0, .int 0, .int 0, .int 0, .int 0, .int 0, .int 0, .int 0, .ref mna, .ref mpi, .ref mca, .ref mwa, .int 0, .ref mrd])), (ms, .inl (kms, 3047, .inl f9285))] [(kcl, .int), (kms, .int)] H96 locs97 := Z98
      clear Z98
      refine lv_aload_n hx hb dX7_wider_56 rfl (lv_at hl92 2 rfl) ?_
      refine lv_iload_n hx hb dX7_wider_57 rfl (lv_at hl92 4 rfl) ?_
      refine zz_cv (WC := [(mo, .inr (7, [.ref ms, .ref mi, .ref ma, .int 0, .ref mts, .ref mtz, .ref mtn, .ref mh, .ref mhn, .ref mhw, .ref mhz, .ref mhr, .ref mcl, .ref mtp, .int 0, .int 0, .int 0, .int 0, .int 0, .int 0, .int 0, .int 0, .int 0, .int 0, .int 0, .ref mna, .ref mpi, .ref mca, .ref mwa, .int 0, .ref mrd])), (ms, .inl (kms, 3047, .inl f9285))]) (TC := [(kms, .int)]) (WR := [(mcl, .inl (kcl, 47, .inl c912))]) (TR := [(kcl, .int)]) (k := 0) (n := 0) Z99 [1, 2] [0] [1] [0] rfl rfl (by decide +kernel) (by decide +kernel) (by decide +kernel) rfl rfl (fun Zc => va_runV (As := [.int (nI N)]) (rest := []) X (c7_many l D mo ms mi ma mts mtz mtn mh mhn mhw mhz mhr mcl mtp mna mpi mca mwa mrd 0 0 0 0 0 0 0 0 0 0 0 0 0 kms f9285 0 0 0 0 0 1 (zz_hw 0 (12 - 2)) 2 10 N p286 p287 p288 p289 p290 p291 p292 p293 p294 p295 p296 (by omega) H96.size) (cwV 1 hts gX7_wider_X7_goesOnMany rfl rfl rfl ⟨rfl, zh_X7_goesOnMany⟩ ⟨Nat.le_of_ble_eq_true rfl, Nat.le_of_ble_eq_true rfl⟩) (zz_pV (ci := 7) Zc 0 rfl rfl) rfl rfl hl92.1 rfl (lv_room (Nat.le_of_ble_eq_true rfl)) dX7_wider_58 ⟨Nat.le_of_ble_eq_true rfl, Nat.le_of_ble_eq_true rfl⟩) rfl rfl (fun u298 H100 locs101 hw299 Z102 => ?_)
      clear Z99
      obtain ⟨f9301, F9302, T9303, Z9304, H9305⟩ := u298
      try dsimp only at hw299 Z102
      obtain ⟨⟨p306, p307, p308, p309, p310, p311, p312, p313, p314, p315, p316⟩, hx317⟩ := hw299
      have Z103 : zz_S D A s [(mcl, .inl (kcl, 47, .inl c912)), (mo, .inr (7, [.ref ms, .ref mi, .ref ma, .int 0, .ref mts, .ref mtz, .ref mtn, .ref mh, .ref mhn, .ref mhw, .ref mhz, .ref mhr, .ref mcl, .ref mtp, .int 0, .int 0, .int 0, .int 0, .int 0, .int 0, .int 0, .int 0, .int 0, .int 0, .int 0, .ref mna, .ref mpi, .ref mca, .ref mwa, .int 0, .ref mrd])), (ms, .inl (kms, 3047, .inl f9301))] [(kcl, .int), (kms, .int)] H100 locs101 := Z102
      clear Z102
      refine lv_aload_n hx hb dX7_wider_61 rfl (lv_at hl92 2 rfl) ?_
      refine zz_get X Z103 1 rfl rfl (fun w h => List.mem_cons_of_mem _ (List.mem_append_right _ h)) 0 rfl (zz_m 4 rfl) rfl dX7_wider_62 ?_
      refine lv_iconst (v := 4) hx hb dX7_wider_65 (by decide) ?_
      refine zz_ild X Z103 2 1 rfl rfl (zz_in 4 3047 rfl) dX7_wider_66 ?_
      refine zz_v (v := 0) p310 ?_
      refine lv_iload_n hx hb dX7_wider_67 rfl (lv_at hl92 3 rfl) ?_
      refine lv_icmp_gt (tgt := 76) hx hb dX7_wider_68 (by decide) (fun h => absurd h (Int32.not_lt.mpr w4.1)) (fun _ => ?_)
      refine lv_iload hx hb dX7_wider_71 (lv_at hl92 0 rfl) ?_
      refine lv_goto (tgt := 77) hx hb dX7_wider_73 (by decide) ?_
      refine lv_istore_n (lv' := [(3, .int 2), (4, .int 2), (0, .ref mo), (1, .int ww), (2, .int (nI N))]) hx hb dX7_wider_77 rfl hl92 (by decide) rfl (fun ls104 hl105 => ?_)
      clear hl92
      refine lv_aload_n hx hb dX7_wider_78 rfl (lv_at hl105 2 rfl) ?_
      refine zz_cv (WC := [(mo, .inr (7, [.ref ms, .ref mi, .ref ma, .int 0, .ref mts, .ref mtz, .ref mtn, .ref mh, .ref mhn, .ref mhw, .ref mhz, .ref mhr, .ref mcl, .ref mtp, .int 0, .int 0, .int 0, .int 0, .int 0, .int 0, .int 0, .int 0, .int 0, .int 0, .int 0, .ref mna, .ref mpi, .ref mca, .ref mwa, .int 0, .ref mrd])), (ms, .inl (kms, 3047, .inl f9301)), (mcl, .inl (kcl, 47, .inl c912))]) (TC := [(kms, .int), (kcl, .int)]) (WR := []) (TR := []) (k := 0) (n := 0) Z103 [1, 2, 0] [] [1, 0] [] rfl rfl (by decide +kernel) (by decide +kernel) (by decide +kernel) rfl rfl (fun Zc => va_runV (As := []) (rest := []) X (c7_laysBack l D mo ms mi ma mts mtz mtn mh mhn mhw mhz mhr mcl mtp mna mpi mca mwa mrd 0 0 0 0 0 0 0 0 0 0 0 0 0 kms f9301 kcl c912 H100.size) (cwV 0 hts gX7_wider_X7_laysBack rfl rfl rfl ⟨rfl, zh_X7_laysBack⟩ ⟨Nat.le_of_ble_eq_true rfl, Nat.le_of_ble_eq_true rfl⟩) (zz_pV (ci := 7) Zc 0 rfl rfl) rfl rfl hl105.1 rfl (lv_room (Nat.le_of_ble_eq_true rfl)) dX7_wider_79 ⟨Nat.le_of_ble_eq_true rfl, Nat.le_of_ble_eq_true rfl⟩) rfl rfl (fun u318 H106 locs107 hw319 Z108 => ?_)
      clear Z103
      obtain ⟨f9321, rfl⟩ : ∃ z, z = u318 := ⟨_, rfl⟩
      try dsimp only at hw319 Z108
      have Z109 : zz_S D A s [(mo, .inr (7, [.ref ms, .ref mi, .ref ma, .int 0, .ref mts, .ref mtz, .ref mtn, .ref mh, .ref mhn, .ref mhw, .ref mhz, .ref mhr, .ref mcl, .ref mtp, .int 0, .int 0, .int 0, .int 0, .int 0, .int 0, .int 0, .int 0, .int 0, .int 0, .int 0, .ref mna, .ref mpi, .ref mca, .ref mwa, .int 0, .ref mrd])), (ms, .inl (kms, 3047, .inl f9321)), (mcl, .inl (kcl, 47, .inl c912))] [(kms, .int), (kcl, .int)] H106 locs107 := Z108
      clear Z108
      have p322 : f9321 0 = 0 := (hw319 0 (by decide)).trans ((hw10 0 (by decide)).trans af_0)
      have p323 : f9321 1 = 0 := (hw319 1 (by decide)).trans ((hw10 1 (by decide)).trans af_1)
      have p324 : f9321 2 = 0 := (hw319 2 (by decide)).trans ((hw10 2 (by decide)).trans af_2)
      have p325 : f9321 3 = 0 := (hw319 3 (by decide)).trans ((hw10 3 (by decide)).trans af_3)
      have p326 : f9321 4 = 0 := (hw319 4 (by decide)).trans ((hw10 4 (by decide)).trans af_4)
      have p327 : f9321 5 = 0 := (hw319 5 (by decide)).trans ((hw10 5 (by decide)).trans af_5)
      have p328 : f9321 6 = 1 := (hw319 6 (by decide)).trans ((hw10 6 (by decide)).trans af_6)
      have p329 : f9321 7 = 0 := (hw319 7 (by decide)).trans ((hw10 7 (by decide)).trans af_7)
      have p330 : f9321 8 = 3 := (hw319 8 (by decide)).trans ((hw10 8 (by decide)).trans af_8)
      have p331 : f9321 9 = 10 := (hw319 9 (by decide)).trans ((hw10 9 (by decide)).trans af_9)
      have p332 : f9321 10 = 0 := (hw319 10 (by decide)).trans ((hw10 10 (by decide)).trans af_10)
      refine lv_iinc (v := 1) (lv' := [(4, .int 1), (3, .int 2), (0, .ref mo), (1, .int ww), (2, .int (nI N))]) hx hb dX7_wider_82 hl105 (k := 1) rfl (by decide) (by decide) rfl (fun ls110 hl111 => ?_)
      clear hl105
      refine lv_goto (tgt := 37) hx hb dX7_wider_85 (by decide) ?_
      refine lv_iload hx hb dX7_wider_37 (lv_at hl111 0 rfl) ?_
      refine lv_iconst (v := 1) hx hb dX7_wider_39 (by decide) ?_
      refine lv_icmp_lt (tgt := 88) hx hb dX7_wider_40 (by decide) (fun h => absurd h (by decide)) (fun _ => ?_)
      refine lv_aload_n hx hb dX7_wider_43 rfl (lv_at hl111 2 rfl) ?_
      refine zz_get X Z109 0 rfl rfl (fun w h => List.mem_cons_of_mem _ (List.mem_append_right _ h)) 0 rfl (zz_m 4 rfl) rfl dX7_wider_44 ?_
      refine lv_bipush (v := 8) hx hb dX7_wider_47 (by decide) ?_
      refine lv_iload hx hb dX7_wider_49 (lv_at hl111 0 rfl) ?_
      refine zz_istN (WS' := fun f333 => [(mo, .inr (7, [.ref ms, .ref mi, .ref ma, .int 0, .ref mts, .ref mtz, .ref mtn, .ref mh, .ref mhn, .ref mhw, .ref mhz, .ref mhr, .ref mcl, .ref mtp, .int 0, .int 0, .int 0, .int 0, .int 0, .int 0, .int 0, .int 0, .int 0, .int 0, .int 0, .ref mna, .ref mpi, .ref mca, .ref mwa, .int 0, .ref mrd])), (ms, .inl (kms, 3047, .inl f333)), (mcl, .inl (kcl, 47, .inl c912))]) X Z109 1 0 rfl rfl (zz_in 8 3047 rfl) dX7_wider_51 (fun _ => rfl) (fun f333 ef334 H112 locs113 Z114 => ?_)
      clear Z109
      have p335 : f333 8 = 1 := (by rw [ef334]; rfl)
      have p336 : f333 0 = 0 := (by rw [ef334]; exact p322)
      have p337 : f333 1 = 0 := (by rw [ef334]; exact p323)
      have p338 : f333 2 = 0 := (by rw [ef334]; exact p324)
      have p339 : f333 3 = 0 := (by rw [ef334]; exact p325)
      have p340 : f333 4 = 0 := (by rw [ef334]; exact p326)
      have p341 : f333 5 = 0 := (by rw [ef334]; exact p327)
      have p342 : f333 6 = 1 := (by rw [ef334]; exact p328)
      have p343 : f333 7 = 0 := (by rw [ef334]; exact p329)
      have p344 : f333 9 = 10 := (by rw [ef334]; exact p331)
      have p345 : f333 10 = 0 := (by rw [ef334]; exact p332)
      refine lv_aload_n hx hb dX7_wider_52 rfl (lv_at hl111 2 rfl) ?_
      refine zz_cv (WC := [(mo, .inr (7, [.ref ms, .ref mi, .ref ma, .int 0, .ref mts, .ref mtz, .ref mtn, .ref mh, .ref mhn, .ref mhw, .ref mhz, .ref mhr, .ref mcl, .ref mtp, .int 0, .int 0, .int 0, .int 0, .int 0, .int 0, .int 0, .int 0, .int 0, .int 0, .int 0, .ref mna, .ref mpi, .ref mca, .ref mwa, .int 0, .ref mrd])), (ms, .inl (kms, 3047, .inl f333))]) (TC := [(kms, .int)]) (WR := [(mcl, .inl (kcl, 47, .inl c912))]) (TR := [(kcl, .int)]) (k := 0) (n := 0) Z114 [0, 1] [2] [0] [1] rfl rfl (by decide +kernel) (by decide +kernel) (by decide +kernel) rfl rfl (fun Zc => va_runV (As := []) (rest := []) X (c7_holds l D mo ms mi ma mts mtz mtn mh mhn mhw mhz mhr mcl mtp mna mpi mca mwa mrd 0 0 0 0 0 0 0 0 0 0 0 0 0 kms f333 0 0 0 0 0 0 1 0 1 10 0 p336 p337 p338 p339 p340 p341 p342 p343 p335 p344 p345 H112.size) (cwV 0 hts gX7_wider_X7_holds rfl rfl rfl ⟨rfl, zh_X7_holds⟩ ⟨Nat.le_of_ble_eq_true rfl, Nat.le_of_ble_eq_true rfl⟩) (zz_pV (ci := 7) Zc 0 rfl rfl) rfl rfl hl111.1 rfl (lv_room (Nat.le_of_ble_eq_true rfl)) dX7_wider_53 ⟨Nat.le_of_ble_eq_true rfl, Nat.le_of_ble_eq_true rfl⟩) rfl rfl (fun u346 H115 locs116 hw347 Z117 => ?_)
      clear Z114
      obtain ⟨f9349, rfl⟩ : ∃ z, z = u346 := ⟨_, rfl⟩
      try dsimp only at hw347 Z117
      obtain ⟨⟨p350, p351, p352, p353, p354, p355, p356, p357, p358, p359, p360⟩, hx361⟩ := hw347
      have Z118 : zz_S D A s [(mcl, .inl (kcl, 47, .inl c912)), (mo, .inr (7, [.ref ms, .ref mi, .ref ma, .int 0, .ref mts, .ref mtz, .ref mtn, .ref mh, .ref mhn, .ref mhw, .ref mhz, .ref mhr, .ref mcl, .ref mtp, .int 0, .int 0, .int 0, .int 0, .int 0, .int 0, .int 0, .int 0, .int 0, .int 0, .int 0, .ref mna, .ref mpi, .ref mca, .ref mwa, .int 0, .ref mrd])), (ms, .inl (kms, 3047, .inl f9349))] [(kcl, .int), (kms, .int)] H115 locs116 := Z117
      clear Z117
      refine lv_aload_n hx hb dX7_wider_56 rfl (lv_at hl111 2 rfl) ?_
      refine lv_iload_n hx hb dX7_wider_57 rfl (lv_at hl111 4 rfl) ?_
      refine zz_cv (WC := [(mo, .inr (7, [.ref ms, .ref mi, .ref ma, .int 0, .ref mts, .ref mtz, .ref mtn, .ref mh, .ref mhn, .ref mhw, .ref mhz, .ref mhr, .ref mcl, .ref mtp, .int 0, .int 0, .int 0, .int 0, .int 0, .int 0, .int 0, .int 0, .int 0, .int 0, .int 0, .ref mna, .ref mpi, .ref mca, .ref mwa, .int 0, .ref mrd])), (ms, .inl (kms, 3047, .inl f9349))]) (TC := [(kms, .int)]) (WR := [(mcl, .inl (kcl, 47, .inl c912))]) (TR := [(kcl, .int)]) (k := 0) (n := 0) Z118 [1, 2] [0] [1] [0] rfl rfl (by decide +kernel) (by decide +kernel) (by decide +kernel) rfl rfl (fun Zc => va_runV (As := [.int (nI N)]) (rest := []) X (c7_many l D mo ms mi ma mts mtz mtn mh mhn mhw mhz mhr mcl mtp mna mpi mca mwa mrd 0 0 0 0 0 0 0 0 0 0 0 0 0 kms f9349 0 0 0 0 0 1 (zz_hw 0 (12 - 1)) 1 10 N p350 p351 p352 p353 p354 p355 p356 p357 p358 p359 p360 (by omega) H115.size) (cwV 1 hts gX7_wider_X7_goesOnMany rfl rfl rfl ⟨rfl, zh_X7_goesOnMany⟩ ⟨Nat.le_of_ble_eq_true rfl, Nat.le_of_ble_eq_true rfl⟩) (zz_pV (ci := 7) Zc 0 rfl rfl) rfl rfl hl111.1 rfl (lv_room (Nat.le_of_ble_eq_true rfl)) dX7_wider_58 ⟨Nat.le_of_ble_eq_true rfl, Nat.le_of_ble_eq_true rfl⟩) rfl rfl (fun u362 H119 locs120 hw363 Z121 => ?_)
      clear Z118
      obtain ⟨f9365, F9366, T9367, Z9368, H9369⟩ := u362
      try dsimp only at hw363 Z121
      obtain ⟨⟨p370, p371, p372, p373, p374, p375, p376, p377, p378, p379, p380⟩, hx381⟩ := hw363
      have Z122 : zz_S D A s [(mcl, .inl (kcl, 47, .inl c912)), (mo, .inr (7, [.ref ms, .ref mi, .ref ma, .int 0, .ref mts, .ref mtz, .ref mtn, .ref mh, .ref mhn, .ref mhw, .ref mhz, .ref mhr, .ref mcl, .ref mtp, .int 0, .int 0, .int 0, .int 0, .int 0, .int 0, .int 0, .int 0, .int 0, .int 0, .int 0, .ref mna, .ref mpi, .ref mca, .ref mwa, .int 0, .ref mrd])), (ms, .inl (kms, 3047, .inl f9365))] [(kcl, .int), (kms, .int)] H119 locs120 := Z121
      clear Z121
      refine lv_aload_n hx hb dX7_wider_61 rfl (lv_at hl111 2 rfl) ?_
      refine zz_get X Z122 1 rfl rfl (fun w h => List.mem_cons_of_mem _ (List.mem_append_right _ h)) 0 rfl (zz_m 4 rfl) rfl dX7_wider_62 ?_
      refine lv_iconst (v := 4) hx hb dX7_wider_65 (by decide) ?_
      refine zz_ild X Z122 2 1 rfl rfl (zz_in 4 3047 rfl) dX7_wider_66 ?_
      refine zz_v (v := 0) p374 ?_
      refine lv_iload_n hx hb dX7_wider_67 rfl (lv_at hl111 3 rfl) ?_
      refine lv_icmp_gt (tgt := 76) hx hb dX7_wider_68 (by decide) (fun h => absurd h (Int32.not_lt.mpr w4.1)) (fun _ => ?_)
      refine lv_iload hx hb dX7_wider_71 (lv_at hl111 0 rfl) ?_
      refine lv_goto (tgt := 77) hx hb dX7_wider_73 (by decide) ?_
      refine lv_istore_n (lv' := [(3, .int 1), (4, .int 1), (0, .ref mo), (1, .int ww), (2, .int (nI N))]) hx hb dX7_wider_77 rfl hl111 (by decide) rfl (fun ls123 hl124 => ?_)
      clear hl111
      refine lv_aload_n hx hb dX7_wider_78 rfl (lv_at hl124 2 rfl) ?_
      refine zz_cv (WC := [(mo, .inr (7, [.ref ms, .ref mi, .ref ma, .int 0, .ref mts, .ref mtz, .ref mtn, .ref mh, .ref mhn, .ref mhw, .ref mhz, .ref mhr, .ref mcl, .ref mtp, .int 0, .int 0, .int 0, .int 0, .int 0, .int 0, .int 0, .int 0, .int 0, .int 0, .int 0, .ref mna, .ref mpi, .ref mca, .ref mwa, .int 0, .ref mrd])), (ms, .inl (kms, 3047, .inl f9365)), (mcl, .inl (kcl, 47, .inl c912))]) (TC := [(kms, .int), (kcl, .int)]) (WR := []) (TR := []) (k := 0) (n := 0) Z122 [1, 2, 0] [] [1, 0] [] rfl rfl (by decide +kernel) (by decide +kernel) (by decide +kernel) rfl rfl (fun Zc => va_runV (As := []) (rest := []) X (c7_laysBack l D mo ms mi ma mts mtz mtn mh mhn mhw mhz mhr mcl mtp mna mpi mca mwa mrd 0 0 0 0 0 0 0 0 0 0 0 0 0 kms f9365 kcl c912 H119.size) (cwV 0 hts gX7_wider_X7_laysBack rfl rfl rfl ⟨rfl, zh_X7_laysBack⟩ ⟨Nat.le_of_ble_eq_true rfl, Nat.le_of_ble_eq_true rfl⟩) (zz_pV (ci := 7) Zc 0 rfl rfl) rfl rfl hl124.1 rfl (lv_room (Nat.le_of_ble_eq_true rfl)) dX7_wider_79 ⟨Nat.le_of_ble_eq_true rfl, Nat.le_of_ble_eq_true rfl⟩) rfl rfl (fun u382 H125 locs126 hw383 Z127 => ?_)
      clear Z122
      obtain ⟨f9385, rfl⟩ : ∃ z, z = u382 := ⟨_, rfl⟩
      try dsimp only at hw383 Z127
      have Z128 : zz_S D A s [(mo, .inr (7, [.ref ms, .ref mi, .ref ma, .int 0, .ref mts, .ref mtz, .ref mtn, .ref mh, .ref mhn, .ref mhw, .ref mhz, .ref mhr, .ref mcl, .ref mtp, .int 0, .int 0, .int 0, .int 0, .int 0, .int 0, .int 0, .int 0, .int 0, .int 0, .int 0, .ref mna, .ref mpi, .ref mca, .ref mwa, .int 0, .ref mrd])), (ms, .inl (kms, 3047, .inl f9385)), (mcl, .inl (kcl, 47, .inl c912))] [(kms, .int), (kcl, .int)] H125 locs126 := Z127
      clear Z127
      have p386 : f9385 0 = 0 := (hw383 0 (by decide)).trans ((hw10 0 (by decide)).trans af_0)
      have p387 : f9385 1 = 0 := (hw383 1 (by decide)).trans ((hw10 1 (by decide)).trans af_1)
      have p388 : f9385 2 = 0 := (hw383 2 (by decide)).trans ((hw10 2 (by decide)).trans af_2)
      have p389 : f9385 3 = 0 := (hw383 3 (by decide)).trans ((hw10 3 (by decide)).trans af_3)
      have p390 : f9385 4 = 0 := (hw383 4 (by decide)).trans ((hw10 4 (by decide)).trans af_4)
      have p391 : f9385 5 = 0 := (hw383 5 (by decide)).trans ((hw10 5 (by decide)).trans af_5)
      have p392 : f9385 6 = 1 := (hw383 6 (by decide)).trans ((hw10 6 (by decide)).trans af_6)
      have p393 : f9385 7 = 0 := (hw383 7 (by decide)).trans ((hw10 7 (by decide)).trans af_7)
      have p394 : f9385 8 = 3 := (hw383 8 (by decide)).trans ((hw10 8 (by decide)).trans af_8)
      have p395 : f9385 9 = 10 := (hw383 9 (by decide)).trans ((hw10 9 (by decide)).trans af_9)
      have p396 : f9385 10 = 0 := (hw383 10 (by decide)).trans ((hw10 10 (by decide)).trans af_10)
      refine lv_iinc (v := 0) (lv' := [(4, .int 0), (3, .int 1), (0, .ref mo), (1, .int ww), (2, .int (nI N))]) hx hb dX7_wider_82 hl124 (k := 1) rfl (by decide) (by decide) rfl (fun ls129 hl130 => ?_)
      clear hl124
      refine lv_goto (tgt := 37) hx hb dX7_wider_85 (by decide) ?_
      refine lv_iload hx hb dX7_wider_37 (lv_at hl130 0 rfl) ?_
      refine lv_iconst (v := 1) hx hb dX7_wider_39 (by decide) ?_
      refine lv_icmp_lt (tgt := 88) hx hb dX7_wider_40 (by decide) (fun _ => ?_) (fun h => absurd (by decide) h)
      refine lv_iload_n hx hb dX7_wider_88 rfl (lv_at hl130 1 rfl) ?_
      refine zz_ci (WC := []) (TC := []) (WR := [(mo, .inr (7, [.ref ms, .ref mi, .ref ma, .int 0, .ref mts, .ref mtz, .ref mtn, .ref mh, .ref mhn, .ref mhw, .ref mhz, .ref mhr, .ref mcl, .ref mtp, .int 0, .int 0, .int 0, .int 0, .int 0, .int 0, .int 0, .int 0, .int 0, .int 0, .int 0, .ref mna, .ref mpi, .ref mca, .ref mwa, .int 0, .ref mrd])), (ms, .inl (kms, 3047, .inl f9385)), (mcl, .inl (kcl, 47, .inl c912))]) (TR := [(kms, .int), (kcl, .int)]) (k := 0) (n := 0) Z128 [] [0, 1, 2] [] [0, 1] rfl rfl (by decide +kernel) (by decide +kernel) (by decide +kernel) rfl rfl (fun Zc => va_runS (As := [.int 1]) (rest := []) X (c_orNone l D 1 H125.size) (va_cwS 1 hts gX7_wider_X7_orNone rfl rfl rfl zh_X7_orNone ⟨Nat.le_of_ble_eq_true rfl, Nat.le_of_ble_eq_true rfl⟩) (zz_pS Zc) rfl rfl hl130.1 rfl (lv_room (Nat.le_of_ble_eq_true rfl)) dX7_wider_89 ⟨Nat.le_of_ble_eq_true rfl, Nat.le_of_ble_eq_true rfl⟩) rfl rfl (fun r399 u397 H131 locs132 hw398 Z133 => ?_)
      clear Z128
      have hw398 : r399 = 1 := hw398.trans (by decide)
      subst r399
      have Z134 : zz_S D A s [(mo, .inr (7, [.ref ms, .ref mi, .ref ma, .int 0, .ref mts, .ref mtz, .ref mtn, .ref mh, .ref mhn, .ref mhw, .ref mhz, .ref mhr, .ref mcl, .ref mtp, .int 0, .int 0, .int 0, .int 0, .int 0, .int 0, .int 0, .int 0, .int 0, .int 0, .int 0, .ref mna, .ref mpi, .ref mca, .ref mwa, .int 0, .ref mrd])), (ms, .inl (kms, 3047, .inl f9385)), (mcl, .inl (kcl, 47, .inl c912))] [(kms, .int), (kcl, .int)] H131 locs132 := Z133
      clear Z133
      exact zz_iret X hr hlk Z134 () (by simp [sp_wider, w4, w8]) [] [] (by decide +kernel) rfl rfl dX7_wider_92
    · refine zz_v (v := 0) (zz_wiF w8) ?_
      refine lv_if_ne (tgt := 27) hx hb dX7_wider_21 (by decide) (fun h => absurd (by decide) h) (fun _ => ?_)
      refine lv_ldc (v := (-1000000001)) hx hb hown (hts _ (zz_m 3 rfl)) dX7_wider_24 ?_
      exact zz_iret X hr hlk Z8 () (by simp [sp_wider, w4, w8]) [] [] (by decide +kernel) rfl rfl dX7_wider_26
  · refine zz_v (v := 0) (zz_wiF w4) ?_
    refine lv_if_eq (tgt := 24) hx hb dX7_wider_9 (by decide) (fun _ => ?_) (fun h => absurd (by decide) h)
    refine lv_ldc (v := (-1000000001)) hx hb hown (hts _ (zz_m 3 rfl)) dX7_wider_24 ?_
    exact zz_iret X hr hlk Z4 () (by simp [sp_wider, w4]) [] [] (by decide +kernel) rfl rfl dX7_wider_26

set_option maxHeartbeats 4000000 in
set_option maxRecDepth 100000 in
theorem c7_without (l : Launch) (D : va_G) (mo : Nat) (ms : Nat) (mi : Nat) (ma : Nat) (mts : Nat) (mtz : Nat) (mtn : Nat) (mh : Nat) (mhn : Nat) (mhw : Nat) (mhz : Nat) (mhr : Nat) (mcl : Nat) (mtp : Nat) (mna : Nat) (mpi : Nat) (mca : Nat) (mwa : Nat) (mrd : Nat) (kms : ClassId) (f : (Nat → Int32)) (kcl : ClassId) (cf : (Nat → Int32)) (n : Int32) (what : Int32) (af_0 : f 0 = 0) (af_1 : f 1 = 0) (af_2 : f 2 = 0) (af_3 : f 3 = 0) (af_4 : f 4 = 0) (af_5 : f 5 = 0) (af_6 : f 6 = 1) (af_7 : f 7 = 0) (af_8 : f 8 = 3) (af_9 : f 9 = 10) (af_10 : f 10 = 0) : zz_MI l yX7_without wsX7_without 1 25 0 0 D [.ref mo, .int n, .int what] [(mo, .inr (7, [.ref ms, .ref mi, .ref ma, .int 0, .ref mts, .ref mtz, .ref mtn, .ref mh, .ref mhn, .ref mhw, .ref mhz, .ref mhr, .ref mcl, .ref mtp, .int 0, .int 0, .int 0, .int 0, .int 0, .int 0, .int 0, .int 0, .int 0, .int 0, .int 0, .ref mna, .ref mpi, .ref mca, .ref mwa, .int 0, .ref mrd])), (ms, .inl (kms, 3047, .inl f)), (mcl, .inl (kcl, 47, .inl cf))] [(kms, .int), (kcl, .int)] (fun (r : Int32) (u : Unit) => r = sp_without n what) (fun (u : Unit) => []) (fun (u : Unit) => []) := by
  intro sz
  refine Met.ofW (cc := cX7_without) (maxL := 7) (ret := (some .int)) (by decide) rfl ?_
  intro p e s m args below meth c s₁ B hml hv
  obtain ⟨rfl, hC⟩ := hv
  have hx := B.exec
  have hb := B.bytes
  have hr := B.returns
  have hts := atoms_spec (ws := wsX7_without) B.pre
  have hown : s.vm.findClass RX7 = some m.cls := findClass_of_methodNamed B.named
  have hlk := B.notSynchronized
  have X : CallFix p m c cX7_without 7 s _ wsX7_without RX7 := ⟨hx, hb, hml, hown, hts⟩
  have Z := zz_enter hC
  generalize va_A [(mo, .inr (7, [.ref ms, .ref mi, .ref ma, .int 0, .ref mts, .ref mtz, .ref mtn, .ref mh, .ref mhn, .ref mhw, .ref mhz, .ref mhr, .ref mcl, .ref mtp, .int 0, .int 0, .int 0, .int 0, .int 0, .int 0, .int 0, .int 0, .int 0, .int 0, .int 0, .ref mna, .ref mpi, .ref mca, .ref mwa, .int 0, .ref mrd])), (ms, .inl (kms, 3047, .inl f)), (mcl, .inl (kcl, 47, .inl cf))] sz = A at Z ⊢
  have hl := lv_entry ([.ref mo, .int n, .int what]) (n := 7) (Nat.le_of_ble_eq_true rfl)
  rw [lg_entry_eq]
  generalize (lg_sl ([.ref mo, .int n, .int what]) ++ List.replicate (7 - (lg_sl ([.ref mo, .int n, .int what])).length) Slot.unset).toArray = ls at hl ⊢
  have hl : lv_has ls 7 [(0, .ref mo), (1, .int n), (2, .int what)] := hl
  refine lv_iload_n hx hb dX7_without_0 rfl (lv_at hl 1 rfl) ?_
  refine lv_i2l (v := Int32.toInt64 n) hx hb dX7_without_1 rfl ?_
  refine lv_lconst (v := 1) hx hb dX7_without_2 (by decide) ?_
  refine zz_vl (v := Int32.toInt64 1) (by decide) ?_
  refine lv_ldc2 (v := 60) hx hb hown (hts _ (zz_m 1 rfl)) dX7_without_3 ?_
  refine zz_vl (v := Int32.toInt64 60) (by decide) ?_
  refine zz_ci (WC := []) (TC := []) (WR := [(mo, .inr (7, [.ref ms, .ref mi, .ref ma, .int 0, .ref mts, .ref mtz, .ref mtn, .ref mh, .ref mhn, .ref mhw, .ref mhz, .ref mhr, .ref mcl, .ref mtp, .int 0, .int 0, .int 0, .int 0, .int 0, .int 0, .int 0, .int 0, .int 0, .int 0, .int 0, .ref mna, .ref mpi, .ref mca, .ref mwa, .int 0, .ref mrd])), (ms, .inl (kms, 3047, .inl f)), (mcl, .inl (kcl, 47, .inl cf))]) (TR := [(kms, .int), (kcl, .int)]) (k := 0) (n := 0) Z [] [0, 1, 2] [] [0, 1] rfl rfl (by decide +kernel) (by decide +kernel) (by decide +kernel) rfl rfl (fun Zc => va_runS (As := [.long (Int32.toInt64 n), .long (Int32.toInt64 1), .long (Int32.toInt64 60)]) (rest := []) X (c_isIn l D n 1 60 s.heap.size) (va_cwS 3 hts gX7_without_X7_isIn rfl rfl rfl zh_X7_isIn ⟨Nat.le_of_ble_eq_true rfl, Nat.le_of_ble_eq_true rfl⟩) (zz_pS Zc) rfl rfl hl.1 rfl (lv_room (Nat.le_of_ble_eq_true rfl)) dX7_without_6 ⟨Nat.le_of_ble_eq_true rfl, Nat.le_of_ble_eq_true rfl⟩) rfl rfl (fun r3 u1 H1 locs2 hw2 Z3 => ?_)
  clear Z
  subst r3
  have Z4 : zz_S D A s [(mo, .inr (7, [.ref ms, .ref mi, .ref ma, .int 0, .ref mts, .ref mtz, .ref mtn, .ref mh, .ref mhn, .ref mhw, .ref mhz, .ref mhr, .ref mcl, .ref mtp, .int 0, .int 0, .int 0, .int 0, .int 0, .int 0, .int 0, .int 0, .int 0, .int 0, .int 0, .ref mna, .ref mpi, .ref mca, .ref mwa, .int 0, .ref mrd])), (ms, .inl (kms, 3047, .inl f)), (mcl, .inl (kcl, 47, .inl cf))] [(kms, .int), (kcl, .int)] H1 locs2 := Z3
  clear Z3
  by_cases w4 : 1 ≤ n ∧ n ≤ 60
  · refine zz_v (v := 1) (zz_wiT w4) ?_
    refine lv_if_eq (tgt := 22) hx hb dX7_without_9 (by decide) (fun h => absurd h (by decide)) (fun _ => ?_)
    refine lv_iload_n hx hb dX7_without_12 rfl (lv_at hl 2 rfl) ?_
    refine lv_i2l (v := Int32.toInt64 what) hx hb dX7_without_13 rfl ?_
    refine lv_lconst (v := 0) hx hb dX7_without_14 (by decide) ?_
    refine zz_vl (v := Int32.toInt64 0) (by decide) ?_
    refine lv_lconst (v := 1) hx hb dX7_without_15 (by decide) ?_
    refine zz_vl (v := Int32.toInt64 1) (by decide) ?_
    refine zz_ci (WC := []) (TC := []) (WR := [(mo, .inr (7, [.ref ms, .ref mi, .ref ma, .int 0, .ref mts, .ref mtz, .ref mtn, .ref mh, .ref mhn, .ref mhw, .ref mhz, .ref mhr, .ref mcl, .ref mtp, .int 0, .int 0, .int 0, .int 0, .int 0, .int 0, .int 0, .int 0, .int 0, .int 0, .int 0, .ref mna, .ref mpi, .ref mca, .ref mwa, .int 0, .ref mrd])), (ms, .inl (kms, 3047, .inl f)), (mcl, .inl (kcl, 47, .inl cf))]) (TR := [(kms, .int), (kcl, .int)]) (k := 0) (n := 0) Z4 [] [0, 1, 2] [] [0, 1] rfl rfl (by decide +kernel) (by decide +kernel) (by decide +kernel) rfl rfl (fun Zc => va_runS (As := [.long (Int32.toInt64 what), .long (Int32.toInt64 0), .long (Int32.toInt64 1)]) (rest := []) X (c_isIn l D what 0 1 H1.size) (va_cwS 3 hts gX7_without_X7_isIn rfl rfl rfl zh_X7_isIn ⟨Nat.le_of_ble_eq_true rfl, Nat.le_of_ble_eq_true rfl⟩) (zz_pS Zc) rfl rfl hl.1 rfl (lv_room (Nat.le_of_ble_eq_true rfl)) dX7_without_16 ⟨Nat.le_of_ble_eq_true rfl, Nat.le_of_ble_eq_true rfl⟩) rfl rfl (fun r7 u5 H5 locs6 hw6 Z7 => ?_)
    clear Z4
    subst r7
    have Z8 : zz_S D A s [(mo, .inr (7, [.ref ms, .ref mi, .ref ma, .int 0, .ref mts, .ref mtz, .ref mtn, .ref mh, .ref mhn, .ref mhw, .ref mhz, .ref mhr, .ref mcl, .ref mtp, .int 0, .int 0, .int 0, .int 0, .int 0, .int 0, .int 0, .int 0, .int 0, .int 0, .int 0, .ref mna, .ref mpi, .ref mca, .ref mwa, .int 0, .ref mrd])), (ms, .inl (kms, 3047, .inl f)), (mcl, .inl (kcl, 47, .inl cf))] [(kms, .int), (kcl, .int)] H5 locs6 := Z7
    clear Z7
    by_cases w8 : 0 ≤ what ∧ what ≤ 1
    · refine zz_v (v := 1) (zz_wiT w8) ?_
      refine lv_if_ne (tgt := 25) hx hb dX7_without_19 (by decide) (fun _ => ?_) (fun h => absurd h (by decide))
      refine lv_aload_n hx hb dX7_without_25 rfl (lv_at hl 0 rfl) ?_
      refine zz_cv (WC := [(mo, .inr (7, [.ref ms, .ref mi, .ref ma, .int 0, .ref mts, .ref mtz, .ref mtn, .ref mh, .ref mhn, .ref mhw, .ref mhz, .ref mhr, .ref mcl, .ref mtp, .int 0, .int 0, .int 0, .int 0, .int 0, .int 0, .int 0, .int 0, .int 0, .int 0, .int 0, .ref mna, .ref mpi, .ref mca, .ref mwa, .int 0, .ref mrd])), (ms, .inl (kms, 3047, .inl f)), (mcl, .inl (kcl, 47, .inl cf))]) (TC := [(kms, .int), (kcl, .int)]) (WR := []) (TR := []) (k := 0) (n := 0) Z8 [0, 1, 2] [] [0, 1] [] rfl rfl (by decide +kernel) (by decide +kernel) (by decide +kernel) rfl rfl (fun Zc => va_runV (As := []) (rest := []) X (c7_laysBy l D mo ms mi ma mts mtz mtn mh mhn mhw mhz mhr mcl mtp mna mpi mca mwa mrd 0 0 0 0 0 0 0 0 0 0 0 0 0 kms f kcl cf H5.size) (cwV 0 hts gX7_without_X7_laysBy rfl rfl rfl ⟨rfl, zh_X7_laysBy⟩ ⟨Nat.le_of_ble_eq_true rfl, Nat.le_of_ble_eq_true rfl⟩) (zz_pV (ci := 7) Zc 0 rfl rfl) rfl rfl hl.1 rfl (lv_room (Nat.le_of_ble_eq_true rfl)) dX7_without_26 ⟨Nat.le_of_ble_eq_true rfl, Nat.le_of_ble_eq_true rfl⟩) rfl rfl (fun u9 H9 locs10 hw10 Z11 => ?_)
      clear Z8
      obtain ⟨c912, rfl⟩ : ∃ z, z = u9 := ⟨_, rfl⟩
      try dsimp only at hw10 Z11
      have Z12 : zz_S D A s [(mo, .inr (7, [.ref ms, .ref mi, .ref ma, .int 0, .ref mts, .ref mtz, .ref mtn, .ref mh, .ref mhn, .ref mhw, .ref mhz, .ref mhr, .ref mcl, .ref mtp, .int 0, .int 0, .int 0, .int 0, .int 0, .int 0, .int 0, .int 0, .int 0, .int 0, .int 0, .ref mna, .ref mpi, .ref mca, .ref mwa, .int 0, .ref mrd])), (ms, .inl (kms, 3047, .inl f)), (mcl, .inl (kcl, 47, .inl c912))] [(kms, .int), (kcl, .int)] H9 locs10 := Z11
      clear Z11
      refine lv_iconst (v := (-1)) hx hb dX7_without_29 (by decide) ?_
      refine lv_istore_n (lv' := [(3, .int (-1)), (0, .ref mo), (1, .int n), (2, .int what)]) hx hb dX7_without_30 rfl hl (by decide) rfl (fun ls13 hl14 => ?_)
      clear hl
      refine lv_iconst (v := 0) hx hb dX7_without_31 (by decide) ?_
      refine lv_istore (lv' := [(4, .int 0), (3, .int (-1)), (0, .ref mo), (1, .int n), (2, .int what)]) hx hb dX7_without_32 hl14 (by decide) rfl (fun ls15 hl16 => ?_)
      clear hl14
      refine lv_iconst (v := 0) hx hb dX7_without_34 (by decide) ?_
      refine lv_istore (lv' := [(5, .int 0), (4, .int 0), (3, .int (-1)), (0, .ref mo), (1, .int n), (2, .int what)]) hx hb dX7_without_35 hl16 (by decide) rfl (fun ls17 hl18 => ?_)
      clear hl16
      refine lv_iload hx hb dX7_without_37 (lv_at hl18 0 rfl) ?_
      refine lv_aload_n hx hb dX7_without_39 rfl (lv_at hl18 3 rfl) ?_
      refine zz_get X Z12 0 rfl rfl (fun w h => List.mem_cons_of_mem _ (List.mem_append_right _ h)) 0 rfl (zz_m 3 rfl) rfl dX7_without_40 ?_
      refine lv_iconst (v := 0) hx hb dX7_without_43 (by decide) ?_
      refine zz_ild X Z12 1 0 rfl rfl (zz_in 0 3047 rfl) dX7_without_44 ?_
      refine zz_v (v := 0) af_0 ?_
      refine lv_icmp_ge (tgt := 97) hx hb dX7_without_45 (by decide) (fun _ => ?_) (fun h => absurd (by decide) h)
      refine lv_iload_n hx hb dX7_without_97 rfl (lv_at hl18 2 rfl) ?_
      refine lv_if_ge (tgt := 106) hx hb dX7_without_98 (by decide) (fun h => absurd h (by decide)) (fun _ => ?_)
      refine lv_ldc (v := (-1000000005)) hx hb hown (hts _ (zz_m 4 rfl)) dX7_without_101 ?_
      refine lv_goto (tgt := 116) hx hb dX7_without_103 (by decide) ?_
      exact zz_iret X hr hlk Z12 () (by simp [sp_without, w4, w8]) [] [] (by decide +kernel) rfl rfl dX7_without_116
    · refine zz_v (v := 0) (zz_wiF w8) ?_
      refine lv_if_ne (tgt := 25) hx hb dX7_without_19 (by decide) (fun h => absurd (by decide) h) (fun _ => ?_)
      refine lv_ldc (v := (-1000000001)) hx hb hown (hts _ (zz_m 2 rfl)) dX7_without_22 ?_
      exact zz_iret X hr hlk Z8 () (by simp [sp_without, w4, w8]) [] [] (by decide +kernel) rfl rfl dX7_without_24
  · refine zz_v (v := 0) (zz_wiF w4) ?_
    refine lv_if_eq (tgt := 22) hx hb dX7_without_9 (by decide) (fun _ => ?_) (fun h => absurd (by decide) h)
    refine lv_ldc (v := (-1000000001)) hx hb hown (hts _ (zz_m 2 rfl)) dX7_without_22 ?_
    exact zz_iret X hr hlk Z4 () (by simp [sp_without, w4]) [] [] (by decide +kernel) rfl rfl dX7_without_24

set_option maxHeartbeats 4000000 in
set_option maxRecDepth 100000 in
theorem c7_keep (l : Launch) (D : va_G) (mo : Nat) (ms : Nat) (mi : Nat) (ma : Nat) (mts : Nat) (mtz : Nat) (mtn : Nat) (mh : Nat) (mhn : Nat) (mhw : Nat) (mhz : Nat) (mhr : Nat) (mcl : Nat) (mtp : Nat) (mna : Nat) (mpi : Nat) (mca : Nat) (mwa : Nat) (mrd : Nat) (kms : ClassId) (f : (Nat → Int32)) (k_mi : ClassId) (imf : (Nat → Int32)) (af_0 : f 0 = 0) (af_1 : f 1 = 0) (af_2 : f 2 = 0) (af_3 : f 3 = 0) (af_4 : f 4 = 0) (af_5 : f 5 = 0) (af_6 : f 6 = 1) (af_7 : f 7 = 0) (af_8 : f 8 = 3) (af_9 : f 9 = 10) (af_10 : f 10 = 0) : zz_MI l yX7_keep wsX7_keep 1 23 0 0 D [.ref mo] [(mo, .inr (7, [.ref ms, .ref mi, .ref ma, .int 0, .ref mts, .ref mtz, .ref mtn, .ref mh, .ref mhn, .ref mhw, .ref mhz, .ref mhr, .ref mcl, .ref mtp, .int 0, .int 0, .int 0, .int 0, .int 0, .int 0, .int 0, .int 0, .int 0, .int 0, .int 0, .ref mna, .ref mpi, .ref mca, .ref mwa, .int 0, .ref mrd])), (ms, .inl (kms, 3047, .inl f)), (mi, .inl (k_mi, 3047, .inl imf))] [(kms, .int), (k_mi, .int)] (fun (r : Int32) (u : Unit) => r = 0) (fun (u : Unit) => []) (fun (u : Unit) => []) := by
  intro sz
  refine Met.ofW (cc := cX7_keep) (maxL := 1) (ret := (some .int)) (by decide) rfl ?_
  intro p e s m args below meth c s₁ B hml hv
  obtain ⟨rfl, hC⟩ := hv
  have hx := B.exec
  have hb := B.bytes
  have hr := B.returns
  have hts := atoms_spec (ws := wsX7_keep) B.pre
  have hown : s.vm.findClass RX7 = some m.cls := findClass_of_methodNamed B.named
  have hlk := B.notSynchronized
  have X : CallFix p m c cX7_keep 1 s _ wsX7_keep RX7 := ⟨hx, hb, hml, hown, hts⟩
  have Z := zz_enter hC
  generalize va_A [(mo, .inr (7, [.ref ms, .ref mi, .ref ma, .int 0, .ref mts, .ref mtz, .ref mtn, .ref mh, .ref mhn, .ref mhw, .ref mhz, .ref mhr, .ref mcl, .ref mtp, .int 0, .int 0, .int 0, .int 0, .int 0, .int 0, .int 0, .int 0, .int 0, .int 0, .int 0, .ref mna, .ref mpi, .ref mca, .ref mwa, .int 0, .ref mrd])), (ms, .inl (kms, 3047, .inl f)), (mi, .inl (k_mi, 3047, .inl imf))] sz = A at Z ⊢
  have hl := lv_entry ([.ref mo]) (n := 1) (Nat.le_of_ble_eq_true rfl)
  rw [lg_entry_eq]
  generalize (lg_sl ([.ref mo]) ++ List.replicate (1 - (lg_sl ([.ref mo])).length) Slot.unset).toArray = ls at hl ⊢
  have hl : lv_has ls 1 [(0, .ref mo)] := hl
  refine lv_aload_n hx hb dX7_keep_0 rfl (lv_at hl 0 rfl) ?_
  refine lv_iconst (v := 1) hx hb dX7_keep_1 (by decide) ?_
  refine zz_put (WS' := [(mo, .inr (7, [.ref ms, .ref mi, .ref ma, .int 1, .ref mts, .ref mtz, .ref mtn, .ref mh, .ref mhn, .ref mhw, .ref mhz, .ref mhr, .ref mcl, .ref mtp, .int 0, .int 0, .int 0, .int 0, .int 0, .int 0, .int 0, .int 0, .int 0, .int 0, .int 0, .ref mna, .ref mpi, .ref mca, .ref mwa, .int 0, .ref mrd])), (ms, .inl (kms, 3047, .inl f)), (mi, .inl (k_mi, 3047, .inl imf))]) X Z 0 rfl rfl (fun w h => List.mem_cons_of_mem _ (List.mem_append_right _ h)) tyX7 tyX7_ok nmX7 3 rfl (zz_m 1 rfl) rfl (by decide) (by decide) rfl dX7_keep_2 rfl (fun H1 locs2 Z3 => ?_)
  clear Z
  refine lv_aload_n hx hb dX7_keep_5 rfl (lv_at hl 0 rfl) ?_
  refine lv_aload_n hx hb dX7_keep_6 rfl (lv_at hl 0 rfl) ?_
  refine zz_get X Z3 0 rfl rfl (fun w h => List.mem_cons_of_mem _ (List.mem_append_right _ h)) 0 rfl (zz_m 2 rfl) rfl dX7_keep_7 ?_
  refine lv_aload_n hx hb dX7_keep_10 rfl (lv_at hl 0 rfl) ?_
  refine zz_get X Z3 0 rfl rfl (fun w h => List.mem_cons_of_mem _ (List.mem_append_right _ h)) 1 rfl (zz_m 3 rfl) rfl dX7_keep_11 ?_
  refine zz_cv (WC := [(mo, .inr (7, [.ref ms, .ref mi, .ref ma, .int 1, .ref mts, .ref mtz, .ref mtn, .ref mh, .ref mhn, .ref mhw, .ref mhz, .ref mhr, .ref mcl, .ref mtp, .int 0, .int 0, .int 0, .int 0, .int 0, .int 0, .int 0, .int 0, .int 0, .int 0, .int 0, .ref mna, .ref mpi, .ref mca, .ref mwa, .int 0, .ref mrd])), (ms, .inl (kms, 3047, .inl f)), (mi, .inl (k_mi, 3047, .inl imf))]) (TC := [(kms, .int), (k_mi, .int)]) (WR := []) (TR := []) (k := 0) (n := 0) Z3 [0, 1, 2] [] [0, 1] [] rfl rfl (by decide +kernel) (by decide +kernel) (by decide +kernel) rfl rfl (fun Zc => va_runV (As := [.ref ms, .ref mi]) (rest := []) X (c7_setAside l D mo ms mi ma mts mtz mtn mh mhn mhw mhz mhr mcl mtp mna mpi mca mwa mrd 1 0 0 0 0 0 0 0 0 0 0 0 0 kms f k_mi imf ms mi H1.size) (cwV 2 hts gX7_keep_X7_setAside rfl rfl rfl ⟨rfl, zh_X7_setAside⟩ ⟨Nat.le_of_ble_eq_true rfl, Nat.le_of_ble_eq_true rfl⟩) (zz_pV (ci := 7) Zc 0 rfl rfl) rfl rfl hl.1 rfl (lv_room (Nat.le_of_ble_eq_true rfl)) dX7_keep_14 ⟨Nat.le_of_ble_eq_true rfl, Nat.le_of_ble_eq_true rfl⟩) rfl rfl (fun u1 H4 locs5 hw2 Z6 => ?_)
  clear Z3
  obtain ⟨f94, rfl⟩ : ∃ z, z = u1 := ⟨_, rfl⟩
  try dsimp only at hw2 Z6
  have Z7 : zz_S D A s [(mo, .inr (7, [.ref ms, .ref mi, .ref ma, .int 1, .ref mts, .ref mtz, .ref mtn, .ref mh, .ref mhn, .ref mhw, .ref mhz, .ref mhr, .ref mcl, .ref mtp, .int 0, .int 0, .int 0, .int 0, .int 0, .int 0, .int 0, .int 0, .int 0, .int 0, .int 0, .ref mna, .ref mpi, .ref mca, .ref mwa, .int 0, .ref mrd])), (ms, .inl (kms, 3047, .inl f)), (mi, .inl (k_mi, 3047, .inl f94))] [(kms, .int), (k_mi, .int)] H4 locs5 := Z6
  clear Z6
  refine lv_aload_n hx hb dX7_keep_17 rfl (lv_at hl 0 rfl) ?_
  refine zz_get X Z7 0 rfl rfl (fun w h => List.mem_cons_of_mem _ (List.mem_append_right _ h)) 0 rfl (zz_m 2 rfl) rfl dX7_keep_18 ?_
  refine lv_iconst (v := 0) hx hb dX7_keep_21 (by decide) ?_
  refine zz_ild X Z7 1 0 rfl rfl (zz_in 0 3047 rfl) dX7_keep_22 ?_
  refine zz_v (v := 0) af_0 ?_
  exact zz_iret X hr hlk Z7 () rfl [] [] (by decide +kernel) rfl rfl dX7_keep_23

set_option maxHeartbeats 4000000 in
set_option maxRecDepth 100000 in
theorem c7_feed (l : Launch) (D : va_G) (mo : Nat) (ms : Nat) (mi : Nat) (ma : Nat) (mts : Nat) (mtz : Nat) (mtn : Nat) (mh : Nat) (mhn : Nat) (mhw : Nat) (mhz : Nat) (mhr : Nat) (mcl : Nat) (mtp : Nat) (mna : Nat) (mpi : Nat) (mca : Nat) (mwa : Nat) (mrd : Nat) (k_mtp : ClassId) (tpf : (Nat → Int32)) (a1 : Int32) (a2 : Int32) (a3 : Int32)  : zz_MI l yX7_feed wsX7_feed 0 0 0 0 D [.ref mo, .int a1, .int a2, .int a3] [(mo, .inr (7, [.ref ms, .ref mi, .ref ma, .int 0, .ref mts, .ref mtz, .ref mtn, .ref mh, .ref mhn, .ref mhw, .ref mhz, .ref mhr, .ref mcl, .ref mtp, .int 0, .int 0, .int 0, .int 0, .int 0, .int 0, .int 0, .int 0, .int 0, .int 0, .int 0, .ref mna, .ref mpi, .ref mca, .ref mwa, .int 0, .ref mrd])), (mtp, .inl (k_mtp, 96, .inl tpf))] [(k_mtp, .int)] (fun (r : Int32) (u : Unit) => r = 12) (fun (u : Unit) => []) (fun (u : Unit) => []) := by
  intro sz
  refine Met.ofW (cc := cX7_feed) (maxL := 6) (ret := (some .int)) (by decide) rfl ?_
  intro p e s m args below meth c s₁ B hml hv
  obtain ⟨rfl, hC⟩ := hv
  have hx := B.exec
  have hb := B.bytes
  have hr := B.returns
  have hts := atoms_spec (ws := wsX7_feed) B.pre
  have hown : s.vm.findClass RX7 = some m.cls := findClass_of_methodNamed B.named
  have hlk := B.notSynchronized
  have X : CallFix p m c cX7_feed 6 s _ wsX7_feed RX7 := ⟨hx, hb, hml, hown, hts⟩
  have Z := zz_enter hC
  generalize va_A [(mo, .inr (7, [.ref ms, .ref mi, .ref ma, .int 0, .ref mts, .ref mtz, .ref mtn, .ref mh, .ref mhn, .ref mhw, .ref mhz, .ref mhr, .ref mcl, .ref mtp, .int 0, .int 0, .int 0, .int 0, .int 0, .int 0, .int 0, .int 0, .int 0, .int 0, .int 0, .ref mna, .ref mpi, .ref mca, .ref mwa, .int 0, .ref mrd])), (mtp, .inl (k_mtp, 96, .inl tpf))] sz = A at Z ⊢
  have hl := lv_entry ([.ref mo, .int a1, .int a2, .int a3]) (n := 6) (Nat.le_of_ble_eq_true rfl)
  rw [lg_entry_eq]
  generalize (lg_sl ([.ref mo, .int a1, .int a2, .int a3]) ++ List.replicate (6 - (lg_sl ([.ref mo, .int a1, .int a2, .int a3])).length) Slot.unset).toArray = ls at hl ⊢
  have hl : lv_has ls 6 [(0, .ref mo), (1, .int a1), (2, .int a2), (3, .int a3)] := hl
  refine lv_aload_n hx hb dX7_feed_0 rfl (lv_at hl 0 rfl) ?_
  refine zz_get X Z 0 rfl rfl (fun w h => List.mem_cons_of_mem _ (List.mem_append_right _ h)) 14 rfl (zz_m 1 rfl) rfl dX7_feed_1 ?_
  refine lv_bipush (v := 12) hx hb dX7_feed_4 (by decide) ?_
  refine lv_iadd hx hb dX7_feed_6 ?_
  refine zz_v (v := 12) (by decide) ?_
  refine lv_bipush (v := 96) hx hb dX7_feed_7 (by decide) ?_
  refine lv_icmp_le (tgt := 15) hx hb dX7_feed_9 (by decide) (fun _ => ?_) (fun h => absurd (by decide) h)
  refine lv_iconst (v := 0) hx hb dX7_feed_15 (by decide) ?_
  refine lv_istore (lv' := [(4, .int 0), (0, .ref mo), (1, .int a1), (2, .int a2), (3, .int a3)]) hx hb dX7_feed_16 hl (by decide) rfl (fun ls1 hl2 => ?_)
  clear hl
  refine lv_iload hx hb dX7_feed_18 (lv_at hl2 0 rfl) ?_
  refine lv_bipush (v := 12) hx hb dX7_feed_20 (by decide) ?_
  refine lv_icmp_ge (tgt := 91) hx hb dX7_feed_22 (by decide) (fun h => absurd h (by decide)) (fun _ => ?_)
  refine lv_iload hx hb dX7_feed_25 (lv_at hl2 0 rfl) ?_
  refine lv_iconst (v := 4) hx hb dX7_feed_27 (by decide) ?_
  refine lv_icmp_ge (tgt := 35) hx hb dX7_feed_28 (by decide) (fun h => absurd h (by decide)) (fun _ => ?_)
  refine lv_iload_n hx hb dX7_feed_31 rfl (lv_at hl2 2 rfl) ?_
  refine lv_goto (tgt := 47) hx hb dX7_feed_32 (by decide) ?_
  refine lv_istore (lv' := [(5, .int a1), (4, .int 0), (0, .ref mo), (1, .int a1), (2, .int a2), (3, .int a3)]) hx hb dX7_feed_47 hl2 (by decide) rfl (fun ls3 hl4 => ?_)
  clear hl2
  refine lv_aload_n hx hb dX7_feed_49 rfl (lv_at hl4 2 rfl) ?_
  refine zz_get X Z 0 rfl rfl (fun w h => List.mem_cons_of_mem _ (List.mem_append_right _ h)) 13 rfl (zz_m 3 rfl) rfl dX7_feed_50 ?_
  refine lv_aload_n hx hb dX7_feed_53 rfl (lv_at hl4 2 rfl) ?_
  refine zz_get X Z 0 rfl rfl (fun w h => List.mem_cons_of_mem _ (List.mem_append_right _ h)) 14 rfl (zz_m 1 rfl) rfl dX7_feed_54 ?_
  refine lv_iload hx hb dX7_feed_57 (lv_at hl4 0 rfl) ?_
  refine lv_bipush (v := 24) hx hb dX7_feed_59 (by decide) ?_
  refine lv_bipush (v := 8) hx hb dX7_feed_61 (by decide) ?_
  refine lv_iload hx hb dX7_feed_63 (lv_at hl4 1 rfl) ?_
  refine lv_iconst (v := 4) hx hb dX7_feed_65 (by decide) ?_
  refine lv_irem hx hb dX7_feed_66 (by decide) ?_
  refine zz_v (v := 0) (by decide) ?_
  refine lv_imul hx hb dX7_feed_67 ?_
  refine zz_v (v := 0) (by decide) ?_
  refine lv_isub hx hb dX7_feed_68 ?_
  refine zz_v (v := 24) (by decide) ?_
  refine lv_ishr hx hb dX7_feed_69 ?_
  refine lv_sipush (v := 255) hx hb dX7_feed_70 (by decide) ?_
  refine lv_iand hx hb dX7_feed_73 ?_
  refine zz_istN (WS' := fun f1 => [(mo, .inr (7, [.ref ms, .ref mi, .ref ma, .int 0, .ref mts, .ref mtz, .ref mtn, .ref mh, .ref mhn, .ref mhw, .ref mhz, .ref mhr, .ref mcl, .ref mtp, .int 0, .int 0, .int 0, .int 0, .int 0, .int 0, .int 0, .int 0, .int 0, .int 0, .int 0, .ref mna, .ref mpi, .ref mca, .ref mwa, .int 0, .ref mrd])), (mtp, .inl (k_mtp, 96, .inl f1))]) X Z 1 0 rfl rfl (zz_in 0 96 rfl) dX7_feed_74 (fun _ => rfl) (fun f1 ef2 H5 locs6 Z7 => ?_)
  clear Z
  refine lv_aload_n hx hb dX7_feed_75 rfl (lv_at hl4 2 rfl) ?_
  refine lv_dup hx hb dX7_feed_76 rfl ?_
  refine zz_get X Z7 0 rfl rfl (fun w h => List.mem_cons_of_mem _ (List.mem_append_right _ h)) 14 rfl (zz_m 1 rfl) rfl dX7_feed_77 ?_
  refine lv_iconst (v := 1) hx hb dX7_feed_80 (by decide) ?_
  refine lv_iadd hx hb dX7_feed_81 ?_
  refine zz_v (v := 1) (by decide) ?_
  refine zz_put (WS' := [(mo, .inr (7, [.ref ms, .ref mi, .ref ma, .int 0, .ref mts, .ref mtz, .ref mtn, .ref mh, .ref mhn, .ref mhw, .ref mhz, .ref mhr, .ref mcl, .ref mtp, .int 1, .int 0, .int 0, .int 0, .int 0, .int 0, .int 0, .int 0, .int 0, .int 0, .int 0, .ref mna, .ref mpi, .ref mca, .ref mwa, .int 0, .ref mrd])), (mtp, .inl (k_mtp, 96, .inl f1))]) X Z7 0 rfl rfl (fun w h => List.mem_cons_of_mem _ (List.mem_append_right _ h)) tyX7 tyX7_ok nmX7 14 rfl (zz_m 1 rfl) rfl rfl rfl rfl dX7_feed_82 rfl (fun H8 locs9 Z10 => ?_)
  clear Z7
  refine lv_iinc (v := 1) (lv' := [(4, .int 1), (5, .int a1), (0, .ref mo), (1, .int a1), (2, .int a2), (3, .int a3)]) hx hb dX7_feed_85 hl4 (k := 1) rfl (by decide) (by decide) rfl (fun ls11 hl12 => ?_)
  clear hl4
  refine lv_goto (tgt := 18) hx hb dX7_feed_88 (by decide) ?_
  refine lv_iload hx hb dX7_feed_18 (lv_at hl12 0 rfl) ?_
  refine lv_bipush (v := 12) hx hb dX7_feed_20 (by decide) ?_
  refine lv_icmp_ge (tgt := 91) hx hb dX7_feed_22 (by decide) (fun h => absurd h (by decide)) (fun _ => ?_)
  refine lv_iload hx hb dX7_feed_25 (lv_at hl12 0 rfl) ?_
  refine lv_iconst (v := 4) hx hb dX7_feed_27 (by decide) ?_
  refine lv_icmp_ge (tgt := 35) hx hb dX7_feed_28 (by decide) (fun h => absurd h (by decide)) (fun _ => ?_)
  refine lv_iload_n hx hb dX7_feed_31 rfl (lv_at hl12 3 rfl) ?_
  refine lv_goto (tgt := 47) hx hb dX7_feed_32 (by decide) ?_
  refine lv_istore (lv' := [(5, .int a1), (4, .int 1), (0, .ref mo), (1, .int a1), (2, .int a2), (3, .int a3)]) hx hb dX7_feed_47 hl12 (by decide) rfl (fun ls13 hl14 => ?_)
  clear hl12
  refine lv_aload_n hx hb dX7_feed_49 rfl (lv_at hl14 2 rfl) ?_
  refine zz_get X Z10 0 rfl rfl (fun w h => List.mem_cons_of_mem _ (List.mem_append_right _ h)) 13 rfl (zz_m 3 rfl) rfl dX7_feed_50 ?_
  refine lv_aload_n hx hb dX7_feed_53 rfl (lv_at hl14 2 rfl) ?_
  refine zz_get X Z10 0 rfl rfl (fun w h => List.mem_cons_of_mem _ (List.mem_append_right _ h)) 14 rfl (zz_m 1 rfl) rfl dX7_feed_54 ?_
  refine lv_iload hx hb dX7_feed_57 (lv_at hl14 0 rfl) ?_
  refine lv_bipush (v := 24) hx hb dX7_feed_59 (by decide) ?_
  refine lv_bipush (v := 8) hx hb dX7_feed_61 (by decide) ?_
  refine lv_iload hx hb dX7_feed_63 (lv_at hl14 1 rfl) ?_
  refine lv_iconst (v := 4) hx hb dX7_feed_65 (by decide) ?_
  refine lv_irem hx hb dX7_feed_66 (by decide) ?_
  refine zz_v (v := 1) (by decide) ?_
  refine lv_imul hx hb dX7_feed_67 ?_
  refine zz_v (v := 8) (by decide) ?_
  refine lv_isub hx hb dX7_feed_68 ?_
  refine zz_v (v := 16) (by decide) ?_
  refine lv_ishr hx hb dX7_feed_69 ?_
  refine lv_sipush (v := 255) hx hb dX7_feed_70 (by decide) ?_
  refine lv_iand hx hb dX7_feed_73 ?_
  refine zz_istN (WS' := fun f3 => [(mo, .inr (7, [.ref ms, .ref mi, .ref ma, .int 0, .ref mts, .ref mtz, .ref mtn, .ref mh, .ref mhn, .ref mhw, .ref mhz, .ref mhr, .ref mcl, .ref mtp, .int 1, .int 0, .int 0, .int 0, .int 0, .int 0, .int 0, .int 0, .int 0, .int 0, .int 0, .ref mna, .ref mpi, .ref mca, .ref mwa, .int 0, .ref mrd])), (mtp, .inl (k_mtp, 96, .inl f3))]) X Z10 1 0 rfl rfl (zz_in 1 96 rfl) dX7_feed_74 (fun _ => rfl) (fun f3 ef4 H15 locs16 Z17 => ?_)
  clear Z10
  refine lv_aload_n hx hb dX7_feed_75 rfl (lv_at hl14 2 rfl) ?_
  refine lv_dup hx hb dX7_feed_76 rfl ?_
  refine zz_get X Z17 0 rfl rfl (fun w h => List.mem_cons_of_mem _ (List.mem_append_right _ h)) 14 rfl (zz_m 1 rfl) rfl dX7_feed_77 ?_
  refine lv_iconst (v := 1) hx hb dX7_feed_80 (by decide) ?_
  refine lv_iadd hx hb dX7_feed_81 ?_
  refine zz_v (v := 2) (by decide) ?_
  refine zz_put (WS' := [(mo, .inr (7, [.ref ms, .ref mi, .ref ma, .int 0, .ref mts, .ref mtz, .ref mtn, .ref mh, .ref mhn, .ref mhw, .ref mhz, .ref mhr, .ref mcl, .ref mtp, .int 2, .int 0, .int 0, .int 0, .int 0, .int 0, .int 0, .int 0, .int 0, .int 0, .int 0, .ref mna, .ref mpi, .ref mca, .ref mwa, .int 0, .ref mrd])), (mtp, .inl (k_mtp, 96, .inl f3))]) X Z17 0 rfl rfl (fun w h => List.mem_cons_of_mem _ (List.mem_append_right _ h)) tyX7 tyX7_ok nmX7 14 rfl (zz_m 1 rfl) rfl rfl rfl rfl dX7_feed_82 rfl (fun H18 locs19 Z20 => ?_)
  clear Z17
  refine lv_iinc (v := 2) (lv' := [(4, .int 2), (5, .int a1), (0, .ref mo), (1, .int a1), (2, .int a2), (3, .int a3)]) hx hb dX7_feed_85 hl14 (k := 1) rfl (by decide) (by decide) rfl (fun ls21 hl22 => ?_)
  clear hl14
  refine lv_goto (tgt := 18) hx hb dX7_feed_88 (by decide) ?_
  refine lv_iload hx hb dX7_feed_18 (lv_at hl22 0 rfl) ?_
  refine lv_bipush (v := 12) hx hb dX7_feed_20 (by decide) ?_
  refine lv_icmp_ge (tgt := 91) hx hb dX7_feed_22 (by decide) (fun h => absurd h (by decide)) (fun _ => ?_)
  refine lv_iload hx hb dX7_feed_25 (lv_at hl22 0 rfl) ?_
  refine lv_iconst (v := 4) hx hb dX7_feed_27 (by decide) ?_
  refine lv_icmp_ge (tgt := 35) hx hb dX7_feed_28 (by decide) (fun h => absurd h (by decide)) (fun _ => ?_)
  refine lv_iload_n hx hb dX7_feed_31 rfl (lv_at hl22 3 rfl) ?_
  refine lv_goto (tgt := 47) hx hb dX7_feed_32 (by decide) ?_
  refine lv_istore (lv' := [(5, .int a1), (4, .int 2), (0, .ref mo), (1, .int a1), (2, .int a2), (3, .int a3)]) hx hb dX7_feed_47 hl22 (by decide) rfl (fun ls23 hl24 => ?_)
  clear hl22
  refine lv_aload_n hx hb dX7_feed_49 rfl (lv_at hl24 2 rfl) ?_
  refine zz_get X Z20 0 rfl rfl (fun w h => List.mem_cons_of_mem _ (List.mem_append_right _ h)) 13 rfl (zz_m 3 rfl) rfl dX7_feed_50 ?_
  refine lv_aload_n hx hb dX7_feed_53 rfl (lv_at hl24 2 rfl) ?_
  refine zz_get X Z20 0 rfl rfl (fun w h => List.mem_cons_of_mem _ (List.mem_append_right _ h)) 14 rfl (zz_m 1 rfl) rfl dX7_feed_54 ?_
  refine lv_iload hx hb dX7_feed_57 (lv_at hl24 0 rfl) ?_
  refine lv_bipush (v := 24) hx hb dX7_feed_59 (by decide) ?_
  refine lv_bipush (v := 8) hx hb dX7_feed_61 (by decide) ?_
  refine lv_iload hx hb dX7_feed_63 (lv_at hl24 1 rfl) ?_
  refine lv_iconst (v := 4) hx hb dX7_feed_65 (by decide) ?_
  refine lv_irem hx hb dX7_feed_66 (by decide) ?_
  refine zz_v (v := 2) (by decide) ?_
  refine lv_imul hx hb dX7_feed_67 ?_
  refine zz_v (v := 16) (by decide) ?_
  refine lv_isub hx hb dX7_feed_68 ?_
  refine zz_v (v := 8) (by decide) ?_
  refine lv_ishr hx hb dX7_feed_69 ?_
  refine lv_sipush (v := 255) hx hb dX7_feed_70 (by decide) ?_
  refine lv_iand hx hb dX7_feed_73 ?_
  refine zz_istN (WS' := fun f5 => [(mo, .inr (7, [.ref ms, .ref mi, .ref ma, .int 0, .ref mts, .ref mtz, .ref mtn, .ref mh, .ref mhn, .ref mhw, .ref mhz, .ref mhr, .ref mcl, .ref mtp, .int 2, .int 0, .int 0, .int 0, .int 0, .int 0, .int 0, .int 0, .int 0, .int 0, .int 0, .ref mna, .ref mpi, .ref mca, .ref mwa, .int 0, .ref mrd])), (mtp, .inl (k_mtp, 96, .inl f5))]) X Z20 1 0 rfl rfl (zz_in 2 96 rfl) dX7_feed_74 (fun _ => rfl) (fun f5 ef6 H25 locs26 Z27 => ?_)
  clear Z20
  refine lv_aload_n hx hb dX7_feed_75 rfl (lv_at hl24 2 rfl) ?_
  refine lv_dup hx hb dX7_feed_76 rfl ?_
  refine zz_get X Z27 0 rfl rfl (fun w h => List.mem_cons_of_mem _ (List.mem_append_right _ h)) 14 rfl (zz_m 1 rfl) rfl dX7_feed_77 ?_
  refine lv_iconst (v := 1) hx hb dX7_feed_80 (by decide) ?_
  refine lv_iadd hx hb dX7_feed_81 ?_
  refine zz_v (v := 3) (by decide) ?_
  refine zz_put (WS' := [(mo, .inr (7, [.ref ms, .ref mi, .ref ma, .int 0, .ref mts, .ref mtz, .ref mtn, .ref mh, .ref mhn, .ref mhw, .ref mhz, .ref mhr, .ref mcl, .ref mtp, .int 3, .int 0, .int 0, .int 0, .int 0, .int 0, .int 0, .int 0, .int 0, .int 0, .int 0, .ref mna, .ref mpi, .ref mca, .ref mwa, .int 0, .ref mrd])), (mtp, .inl (k_mtp, 96, .inl f5))]) X Z27 0 rfl rfl (fun w h => List.mem_cons_of_mem _ (List.mem_append_right _ h)) tyX7 tyX7_ok nmX7 14 rfl (zz_m 1 rfl) rfl rfl rfl rfl dX7_feed_82 rfl (fun H28 locs29 Z30 => ?_)
  clear Z27
  refine lv_iinc (v := 3) (lv' := [(4, .int 3), (5, .int a1), (0, .ref mo), (1, .int a1), (2, .int a2), (3, .int a3)]) hx hb dX7_feed_85 hl24 (k := 1) rfl (by decide) (by decide) rfl (fun ls31 hl32 => ?_)
  clear hl24
  refine lv_goto (tgt := 18) hx hb dX7_feed_88 (by decide) ?_
  refine lv_iload hx hb dX7_feed_18 (lv_at hl32 0 rfl) ?_
  refine lv_bipush (v := 12) hx hb dX7_feed_20 (by decide) ?_
  refine lv_icmp_ge (tgt := 91) hx hb dX7_feed_22 (by decide) (fun h => absurd h (by decide)) (fun _ => ?_)
  refine lv_iload hx hb dX7_feed_25 (lv_at hl32 0 rfl) ?_
  refine lv_iconst (v := 4) hx hb dX7_feed_27 (by decide) ?_
  refine lv_icmp_ge (tgt := 35) hx hb dX7_feed_28 (by decide) (fun h => absurd h (by decide)) (fun _ => ?_)
  refine lv_iload_n hx hb dX7_feed_31 rfl (lv_at hl32 3 rfl) ?_
  refine lv_goto (tgt := 47) hx hb dX7_feed_32 (by decide) ?_
  refine lv_istore (lv' := [(5, .int a1), (4, .int 3), (0, .ref mo), (1, .int a1), (2, .int a2), (3, .int a3)]) hx hb dX7_feed_47 hl32 (by decide) rfl (fun ls33 hl34 => ?_)
  clear hl32
  refine lv_aload_n hx hb dX7_feed_49 rfl (lv_at hl34 2 rfl) ?_
  refine zz_get X Z30 0 rfl rfl (fun w h => List.mem_cons_of_mem _ (List.mem_append_right _ h)) 13 rfl (zz_m 3 rfl) rfl dX7_feed_50 ?_
  refine lv_aload_n hx hb dX7_feed_53 rfl (lv_at hl34 2 rfl) ?_
  refine zz_get X Z30 0 rfl rfl (fun w h => List.mem_cons_of_mem _ (List.mem_append_right _ h)) 14 rfl (zz_m 1 rfl) rfl dX7_feed_54 ?_
  refine lv_iload hx hb dX7_feed_57 (lv_at hl34 0 rfl) ?_
  refine lv_bipush (v := 24) hx hb dX7_feed_59 (by decide) ?_
  refine lv_bipush (v := 8) hx hb dX7_feed_61 (by decide) ?_
  refine lv_iload hx hb dX7_feed_63 (lv_at hl34 1 rfl) ?_
  refine lv_iconst (v := 4) hx hb dX7_feed_65 (by decide) ?_
  refine lv_irem hx hb dX7_feed_66 (by decide) ?_
  refine zz_v (v := 3) (by decide) ?_
  refine lv_imul hx hb dX7_feed_67 ?_
  refine zz_v (v := 24) (by decide) ?_
  refine lv_isub hx hb dX7_feed_68 ?_
  refine zz_v (v := 0) (by decide) ?_
  refine lv_ishr hx hb dX7_feed_69 ?_
  refine lv_sipush (v := 255) hx hb dX7_feed_70 (by decide) ?_
  refine lv_iand hx hb dX7_feed_73 ?_
  refine zz_istN (WS' := fun f7 => [(mo, .inr (7, [.ref ms, .ref mi, .ref ma, .int 0, .ref mts, .ref mtz, .ref mtn, .ref mh, .ref mhn, .ref mhw, .ref mhz, .ref mhr, .ref mcl, .ref mtp, .int 3, .int 0, .int 0, .int 0, .int 0, .int 0, .int 0, .int 0, .int 0, .int 0, .int 0, .ref mna, .ref mpi, .ref mca, .ref mwa, .int 0, .ref mrd])), (mtp, .inl (k_mtp, 96, .inl f7))]) X Z30 1 0 rfl rfl (zz_in 3 96 rfl) dX7_feed_74 (fun _ => rfl) (fun f7 ef8 H35 locs36 Z37 => ?_)
  clear Z30
  refine lv_aload_n hx hb dX7_feed_75 rfl (lv_at hl34 2 rfl) ?_
  refine lv_dup hx hb dX7_feed_76 rfl ?_
  refine zz_get X Z37 0 rfl rfl (fun w h => List.mem_cons_of_mem _ (List.mem_append_right _ h)) 14 rfl (zz_m 1 rfl) rfl dX7_feed_77 ?_
  refine lv_iconst (v := 1) hx hb dX7_feed_80 (by decide) ?_
  refine lv_iadd hx hb dX7_feed_81 ?_
  refine zz_v (v := 4) (by decide) ?_
  refine zz_put (WS' := [(mo, .inr (7, [.ref ms, .ref mi, .ref ma, .int 0, .ref mts, .ref mtz, .ref mtn, .ref mh, .ref mhn, .ref mhw, .ref mhz, .ref mhr, .ref mcl, .ref mtp, .int 4, .int 0, .int 0, .int 0, .int 0, .int 0, .int 0, .int 0, .int 0, .int 0, .int 0, .ref mna, .ref mpi, .ref mca, .ref mwa, .int 0, .ref mrd])), (mtp, .inl (k_mtp, 96, .inl f7))]) X Z37 0 rfl rfl (fun w h => List.mem_cons_of_mem _ (List.mem_append_right _ h)) tyX7 tyX7_ok nmX7 14 rfl (zz_m 1 rfl) rfl rfl rfl rfl dX7_feed_82 rfl (fun H38 locs39 Z40 => ?_)
  clear Z37
  refine lv_iinc (v := 4) (lv' := [(4, .int 4), (5, .int a1), (0, .ref mo), (1, .int a1), (2, .int a2), (3, .int a3)]) hx hb dX7_feed_85 hl34 (k := 1) rfl (by decide) (by decide) rfl (fun ls41 hl42 => ?_)
  clear hl34
  refine lv_goto (tgt := 18) hx hb dX7_feed_88 (by decide) ?_
  refine lv_iload hx hb dX7_feed_18 (lv_at hl42 0 rfl) ?_
  refine lv_bipush (v := 12) hx hb dX7_feed_20 (by decide) ?_
  refine lv_icmp_ge (tgt := 91) hx hb dX7_feed_22 (by decide) (fun h => absurd h (by decide)) (fun _ => ?_)
  refine lv_iload hx hb dX7_feed_25 (lv_at hl42 0 rfl) ?_
  refine lv_iconst (v := 4) hx hb dX7_feed_27 (by decide) ?_
  refine lv_icmp_ge (tgt := 35) hx hb dX7_feed_28 (by decide) (fun _ => ?_) (fun h => absurd (by decide) h)
  refine lv_iload hx hb dX7_feed_35 (lv_at hl42 0 rfl) ?_
  refine lv_bipush (v := 8) hx hb dX7_feed_37 (by decide) ?_
  refine lv_icmp_ge (tgt := 46) hx hb dX7_feed_39 (by decide) (fun h => absurd h (by decide)) (fun _ => ?_)
  refine lv_iload_n hx hb dX7_feed_42 rfl (lv_at hl42 4 rfl) ?_
  refine lv_goto (tgt := 47) hx hb dX7_feed_43 (by decide) ?_
  refine lv_istore (lv' := [(5, .int a2), (4, .int 4), (0, .ref mo), (1, .int a1), (2, .int a2), (3, .int a3)]) hx hb dX7_feed_47 hl42 (by decide) rfl (fun ls43 hl44 => ?_)
  clear hl42
  refine lv_aload_n hx hb dX7_feed_49 rfl (lv_at hl44 2 rfl) ?_
  refine zz_get X Z40 0 rfl rfl (fun w h => List.mem_cons_of_mem _ (List.mem_append_right _ h)) 13 rfl (zz_m 3 rfl) rfl dX7_feed_50 ?_
  refine lv_aload_n hx hb dX7_feed_53 rfl (lv_at hl44 2 rfl) ?_
  refine zz_get X Z40 0 rfl rfl (fun w h => List.mem_cons_of_mem _ (List.mem_append_right _ h)) 14 rfl (zz_m 1 rfl) rfl dX7_feed_54 ?_
  refine lv_iload hx hb dX7_feed_57 (lv_at hl44 0 rfl) ?_
  refine lv_bipush (v := 24) hx hb dX7_feed_59 (by decide) ?_
  refine lv_bipush (v := 8) hx hb dX7_feed_61 (by decide) ?_
  refine lv_iload hx hb dX7_feed_63 (lv_at hl44 1 rfl) ?_
  refine lv_iconst (v := 4) hx hb dX7_feed_65 (by decide) ?_
  refine lv_irem hx hb dX7_feed_66 (by decide) ?_
  refine zz_v (v := 0) (by decide) ?_
  refine lv_imul hx hb dX7_feed_67 ?_
  refine zz_v (v := 0) (by decide) ?_
  refine lv_isub hx hb dX7_feed_68 ?_
  refine zz_v (v := 24) (by decide) ?_
  refine lv_ishr hx hb dX7_feed_69 ?_
  refine lv_sipush (v := 255) hx hb dX7_feed_70 (by decide) ?_
  refine lv_iand hx hb dX7_feed_73 ?_
  refine zz_istN (WS' := fun f9 => [(mo, .inr (7, [.ref ms, .ref mi, .ref ma, .int 0, .ref mts, .ref mtz, .ref mtn, .ref mh, .ref mhn, .ref mhw, .ref mhz, .ref mhr, .ref mcl, .ref mtp, .int 4, .int 0, .int 0, .int 0, .int 0, .int 0, .int 0, .int 0, .int 0, .int 0, .int 0, .ref mna, .ref mpi, .ref mca, .ref mwa, .int 0, .ref mrd])), (mtp, .inl (k_mtp, 96, .inl f9))]) X Z40 1 0 rfl rfl (zz_in 4 96 rfl) dX7_feed_74 (fun _ => rfl) (fun f9 ef10 H45 locs46 Z47 => ?_)
  clear Z40
  refine lv_aload_n hx hb dX7_feed_75 rfl (lv_at hl44 2 rfl) ?_
  refine lv_dup hx hb dX7_feed_76 rfl ?_
  refine zz_get X Z47 0 rfl rfl (fun w h => List.mem_cons_of_mem _ (List.mem_append_right _ h)) 14 rfl (zz_m 1 rfl) rfl dX7_feed_77 ?_
  refine lv_iconst (v := 1) hx hb dX7_feed_80 (by decide) ?_
  refine lv_iadd hx hb dX7_feed_81 ?_
  refine zz_v (v := 5) (by decide) ?_
  refine zz_put (WS' := [(mo, .inr (7, [.ref ms, .ref mi, .ref ma, .int 0, .ref mts, .ref mtz, .ref mtn, .ref mh, .ref mhn, .ref mhw, .ref mhz, .ref mhr, .ref mcl, .ref mtp, .int 5, .int 0, .int 0, .int 0, .int 0, .int 0, .int 0, .int 0, .int 0, .int 0, .int 0, .ref mna, .ref mpi, .ref mca, .ref mwa, .int 0, .ref mrd])), (mtp, .inl (k_mtp, 96, .inl f9))]) X Z47 0 rfl rfl (fun w h => List.mem_cons_of_mem _ (List.mem_append_right _ h)) tyX7 tyX7_ok nmX7 14 rfl (zz_m 1 rfl) rfl rfl rfl rfl dX7_feed_82 rfl (fun H48 locs49 Z50 => ?_)
  clear Z47
  refine lv_iinc (v := 5) (lv' := [(4, .int 5), (5, .int a2), (0, .ref mo), (1, .int a1), (2, .int a2), (3, .int a3)]) hx hb dX7_feed_85 hl44 (k := 1) rfl (by decide) (by decide) rfl (fun ls51 hl52 => ?_)
  clear hl44
  refine lv_goto (tgt := 18) hx hb dX7_feed_88 (by decide) ?_
  refine lv_iload hx hb dX7_feed_18 (lv_at hl52 0 rfl) ?_
  refine lv_bipush (v := 12) hx hb dX7_feed_20 (by decide) ?_
  refine lv_icmp_ge (tgt := 91) hx hb dX7_feed_22 (by decide) (fun h => absurd h (by decide)) (fun _ => ?_)
  refine lv_iload hx hb dX7_feed_25 (lv_at hl52 0 rfl) ?_
  refine lv_iconst (v := 4) hx hb dX7_feed_27 (by decide) ?_
  refine lv_icmp_ge (tgt := 35) hx hb dX7_feed_28 (by decide) (fun _ => ?_) (fun h => absurd (by decide) h)
  refine lv_iload hx hb dX7_feed_35 (lv_at hl52 0 rfl) ?_
  refine lv_bipush (v := 8) hx hb dX7_feed_37 (by decide) ?_
  refine lv_icmp_ge (tgt := 46) hx hb dX7_feed_39 (by decide) (fun h => absurd h (by decide)) (fun _ => ?_)
  refine lv_iload_n hx hb dX7_feed_42 rfl (lv_at hl52 4 rfl) ?_
  refine lv_goto (tgt := 47) hx hb dX7_feed_43 (by decide) ?_
  refine lv_istore (lv' := [(5, .int a2), (4, .int 5), (0, .ref mo), (1, .int a1), (2, .int a2), (3, .int a3)]) hx hb dX7_feed_47 hl52 (by decide) rfl (fun ls53 hl54 => ?_)
  clear hl52
  refine lv_aload_n hx hb dX7_feed_49 rfl (lv_at hl54 2 rfl) ?_
  refine zz_get X Z50 0 rfl rfl (fun w h => List.mem_cons_of_mem _ (List.mem_append_right _ h)) 13 rfl (zz_m 3 rfl) rfl dX7_feed_50 ?_
  refine lv_aload_n hx hb dX7_feed_53 rfl (lv_at hl54 2 rfl) ?_
  refine zz_get X Z50 0 rfl rfl (fun w h => List.mem_cons_of_mem _ (List.mem_append_right _ h)) 14 rfl (zz_m 1 rfl) rfl dX7_feed_54 ?_
  refine lv_iload hx hb dX7_feed_57 (lv_at hl54 0 rfl) ?_
  refine lv_bipush (v := 24) hx hb dX7_feed_59 (by decide) ?_
  refine lv_bipush (v := 8) hx hb dX7_feed_61 (by decide) ?_
  refine lv_iload hx hb dX7_feed_63 (lv_at hl54 1 rfl) ?_
  refine lv_iconst (v := 4) hx hb dX7_feed_65 (by decide) ?_
  refine lv_irem hx hb dX7_feed_66 (by decide) ?_
  refine zz_v (v := 1) (by decide) ?_
  refine lv_imul hx hb dX7_feed_67 ?_
  refine zz_v (v := 8) (by decide) ?_
  refine lv_isub hx hb dX7_feed_68 ?_
  refine zz_v (v := 16) (by decide) ?_
  refine lv_ishr hx hb dX7_feed_69 ?_
  refine lv_sipush (v := 255) hx hb dX7_feed_70 (by decide) ?_
  refine lv_iand hx hb dX7_feed_73 ?_
  refine zz_istN (WS' := fun f11 => [(mo, .inr (7, [.ref ms, .ref mi, .ref ma, .int 0, .ref mts, .ref mtz, .ref mtn, .ref mh, .ref mhn, .ref mhw, .ref mhz, .ref mhr, .ref mcl, .ref mtp, .int 5, .int 0, .int 0, .int 0, .int 0, .int 0, .int 0, .int 0, .int 0, .int 0, .int 0, .ref mna, .ref mpi, .ref mca, .ref mwa, .int 0, .ref mrd])), (mtp, .inl (k_mtp, 96, .inl f11))]) X Z50 1 0 rfl rfl (zz_in 5 96 rfl) dX7_feed_74 (fun _ => rfl) (fun f11 ef12 H55 locs56 Z57 => ?_)
  clear Z50
  refine lv_aload_n hx hb dX7_feed_75 rfl (lv_at hl54 2 rfl) ?_
  refine lv_dup hx hb dX7_feed_76 rfl ?_
  refine zz_get X Z57 0 rfl rfl (fun w h => List.mem_cons_of_mem _ (List.mem_append_right _ h)) 14 rfl (zz_m 1 rfl) rfl dX7_feed_77 ?_
  refine lv_iconst (v := 1) hx hb dX7_feed_80 (by decide) ?_
  refine lv_iadd hx hb dX7_feed_81 ?_
  refine zz_v (v := 6) (by decide) ?_
  refine zz_put (WS' := [(mo, .inr (7, [.ref ms, .ref mi, .ref ma, .int 0, .ref mts, .ref mtz, .ref mtn, .ref mh, .ref mhn, .ref mhw, .ref mhz, .ref mhr, .ref mcl, .ref mtp, .int 6, .int 0, .int 0, .int 0, .int 0, .int 0, .int 0, .int 0, .int 0, .int 0, .int 0, .ref mna, .ref mpi, .ref mca, .ref mwa, .int 0, .ref mrd])), (mtp, .inl (k_mtp, 96, .inl f11))]) X Z57 0 rfl rfl (fun w h => List.mem_cons_of_mem _ (List.mem_append_right _ h)) tyX7 tyX7_ok nmX7 14 rfl (zz_m 1 rfl) rfl rfl rfl rfl dX7_feed_82 rfl (fun H58 locs59 Z60 => ?_)
  clear Z57
  refine lv_iinc (v := 6) (lv' := [(4, .int 6), (5, .int a2), (0, .ref mo), (1, .int a1), (2, .int a2), (3, .int a3)]) hx hb dX7_feed_85 hl54 (k := 1) rfl (by decide) (by decide) rfl (fun ls61 hl62 => ?_)
  clear hl54
  refine lv_goto (tgt := 18) hx hb dX7_feed_88 (by decide) ?_
  refine lv_iload hx hb dX7_feed_18 (lv_at hl62 0 rfl) ?_
  refine lv_bipush (v := 12) hx hb dX7_feed_20 (by decide) ?_
  refine lv_icmp_ge (tgt := 91) hx hb dX7_feed_22 (by decide) (fun h => absurd h (by decide)) (fun _ => ?_)
  refine lv_iload hx hb dX7_feed_25 (lv_at hl62 0 rfl) ?_
  refine lv_iconst (v := 4) hx hb dX7_feed_27 (by decide) ?_
  refine lv_icmp_ge (tgt := 35) hx hb dX7_feed_28 (by decide) (fun _ => ?_) (fun h => absurd (by decide) h)
  refine lv_iload hx hb dX7_feed_35 (lv_at hl62 0 rfl) ?_
  refine lv_bipush (v := 8) hx hb dX7_feed_37 (by decide) ?_
  refine lv_icmp_ge (tgt := 46) hx hb dX7_feed_39 (by decide) (fun h => absurd h (by decide)) (fun _ => ?_)
  refine lv_iload_n hx hb dX7_feed_42 rfl (lv_at hl62 4 rfl) ?_
  refine lv_goto (tgt := 47) hx hb dX7_feed_43 (by decide) ?_
  refine lv_istore (lv' := [(5, .int a2), (4, .int 6), (0, .ref mo), (1, .int a1), (2, .int a2), (3, .int a3)]) hx hb dX7_feed_47 hl62 (by decide) rfl (fun ls63 hl64 => ?_)
  clear hl62
  refine lv_aload_n hx hb dX7_feed_49 rfl (lv_at hl64 2 rfl) ?_
  refine zz_get X Z60 0 rfl rfl (fun w h => List.mem_cons_of_mem _ (List.mem_append_right _ h)) 13 rfl (zz_m 3 rfl) rfl dX7_feed_50 ?_
  refine lv_aload_n hx hb dX7_feed_53 rfl (lv_at hl64 2 rfl) ?_
  refine zz_get X Z60 0 rfl rfl (fun w h => List.mem_cons_of_mem _ (List.mem_append_right _ h)) 14 rfl (zz_m 1 rfl) rfl dX7_feed_54 ?_
  refine lv_iload hx hb dX7_feed_57 (lv_at hl64 0 rfl) ?_
  refine lv_bipush (v := 24) hx hb dX7_feed_59 (by decide) ?_
  refine lv_bipush (v := 8) hx hb dX7_feed_61 (by decide) ?_
  refine lv_iload hx hb dX7_feed_63 (lv_at hl64 1 rfl) ?_
  refine lv_iconst (v := 4) hx hb dX7_feed_65 (by decide) ?_
  refine lv_irem hx hb dX7_feed_66 (by decide) ?_
  refine zz_v (v := 2) (by decide) ?_
  refine lv_imul hx hb dX7_feed_67 ?_
  refine zz_v (v := 16) (by decide) ?_
  refine lv_isub hx hb dX7_feed_68 ?_
  refine zz_v (v := 8) (by decide) ?_
  refine lv_ishr hx hb dX7_feed_69 ?_
  refine lv_sipush (v := 255) hx hb dX7_feed_70 (by decide) ?_
  refine lv_iand hx hb dX7_feed_73 ?_
  refine zz_istN (WS' := fun f13 => [(mo, .inr (7, [.ref ms, .ref mi, .ref ma, .int 0, .ref mts, .ref mtz, .ref mtn, .ref mh, .ref mhn, .ref mhw, .ref mhz, .ref mhr, .ref mcl, .ref mtp, .int 6, .int 0, .int 0, .int 0, .int 0, .int 0, .int 0, .int 0, .int 0, .int 0, .int 0, .ref mna, .ref mpi, .ref mca, .ref mwa, .int 0, .ref mrd])), (mtp, .inl (k_mtp, 96, .inl f13))]) X Z60 1 0 rfl rfl (zz_in 6 96 rfl) dX7_feed_74 (fun _ => rfl) (fun f13 ef14 H65 locs66 Z67 => ?_)
  clear Z60
  refine lv_aload_n hx hb dX7_feed_75 rfl (lv_at hl64 2 rfl) ?_
  refine lv_dup hx hb dX7_feed_76 rfl ?_
  refine zz_get X Z67 0 rfl rfl (fun w h => List.mem_cons_of_mem _ (List.mem_append_right _ h)) 14 rfl (zz_m 1 rfl) rfl dX7_feed_77 ?_
  refine lv_iconst (v := 1) hx hb dX7_feed_80 (by decide) ?_
  refine lv_iadd hx hb dX7_feed_81 ?_
  refine zz_v (v := 7) (by decide) ?_
  refine zz_put (WS' := [(mo, .inr (7, [.ref ms, .ref mi, .ref ma, .int 0, .ref mts, .ref mtz, .ref mtn, .ref mh, .ref mhn, .ref mhw, .ref mhz, .ref mhr, .ref mcl, .ref mtp, .int 7, .int 0, .int 0, .int 0, .int 0, .int 0, .int 0, .int 0, .int 0, .int 0, .int 0, .ref mna, .ref mpi, .ref mca, .ref mwa, .int 0, .ref mrd])), (mtp, .inl (k_mtp, 96, .inl f13))]) X Z67 0 rfl rfl (fun w h => List.mem_cons_of_mem _ (List.mem_append_right _ h)) tyX7 tyX7_ok nmX7 14 rfl (zz_m 1 rfl) rfl rfl rfl rfl dX7_feed_82 rfl (fun H68 locs69 Z70 => ?_)
  clear Z67
  refine lv_iinc (v := 7) (lv' := [(4, .int 7), (5, .int a2), (0, .ref mo), (1, .int a1), (2, .int a2), (3, .int a3)]) hx hb dX7_feed_85 hl64 (k := 1) rfl (by decide) (by decide) rfl (fun ls71 hl72 => ?_)
  clear hl64
  refine lv_goto (tgt := 18) hx hb dX7_feed_88 (by decide) ?_
  refine lv_iload hx hb dX7_feed_18 (lv_at hl72 0 rfl) ?_
  refine lv_bipush (v := 12) hx hb dX7_feed_20 (by decide) ?_
  refine lv_icmp_ge (tgt := 91) hx hb dX7_feed_22 (by decide) (fun h => absurd h (by decide)) (fun _ => ?_)
  refine lv_iload hx hb dX7_feed_25 (lv_at hl72 0 rfl) ?_
  refine lv_iconst (v := 4) hx hb dX7_feed_27 (by decide) ?_
  refine lv_icmp_ge (tgt := 35) hx hb dX7_feed_28 (by decide) (fun _ => ?_) (fun h => absurd (by decide) h)
  refine lv_iload hx hb dX7_feed_35 (lv_at hl72 0 rfl) ?_
  refine lv_bipush (v := 8) hx hb dX7_feed_37 (by decide) ?_
  refine lv_icmp_ge (tgt := 46) hx hb dX7_feed_39 (by decide) (fun h => absurd h (by decide)) (fun _ => ?_)
  refine lv_iload_n hx hb dX7_feed_42 rfl (lv_at hl72 4 rfl) ?_
  refine lv_goto (tgt := 47) hx hb dX7_feed_43 (by decide) ?_
  refine lv_istore (lv' := [(5, .int a2), (4, .int 7), (0, .ref mo), (1, .int a1), (2, .int a2), (3, .int a3)]) hx hb dX7_feed_47 hl72 (by decide) rfl (fun ls73 hl74 => ?_)
  clear hl72
  refine lv_aload_n hx hb dX7_feed_49 rfl (lv_at hl74 2 rfl) ?_
  refine zz_get X Z70 0 rfl rfl (fun w h => List.mem_cons_of_mem _ (List.mem_append_right _ h)) 13 rfl (zz_m 3 rfl) rfl dX7_feed_50 ?_
  refine lv_aload_n hx hb dX7_feed_53 rfl (lv_at hl74 2 rfl) ?_
  refine zz_get X Z70 0 rfl rfl (fun w h => List.mem_cons_of_mem _ (List.mem_append_right _ h)) 14 rfl (zz_m 1 rfl) rfl dX7_feed_54 ?_
  refine lv_iload hx hb dX7_feed_57 (lv_at hl74 0 rfl) ?_
  refine lv_bipush (v := 24) hx hb dX7_feed_59 (by decide) ?_
  refine lv_bipush (v := 8) hx hb dX7_feed_61 (by decide) ?_
  refine lv_iload hx hb dX7_feed_63 (lv_at hl74 1 rfl) ?_
  refine lv_iconst (v := 4) hx hb dX7_feed_65 (by decide) ?_
  refine lv_irem hx hb dX7_feed_66 (by decide) ?_
  refine zz_v (v := 3) (by decide) ?_
  refine lv_imul hx hb dX7_feed_67 ?_
  refine zz_v (v := 24) (by decide) ?_
  refine lv_isub hx hb dX7_feed_68 ?_
  refine zz_v (v := 0) (by decide) ?_
  refine lv_ishr hx hb dX7_feed_69 ?_
  refine lv_sipush (v := 255) hx hb dX7_feed_70 (by decide) ?_
  refine lv_iand hx hb dX7_feed_73 ?_
  refine zz_istN (WS' := fun f15 => [(mo, .inr (7, [.ref ms, .ref mi, .ref ma, .int 0, .ref mts, .ref mtz, .ref mtn, .ref mh, .ref mhn, .ref mhw, .ref mhz, .ref mhr, .ref mcl, .ref mtp, .int 7, .int 0, .int 0, .int 0, .int 0, .int 0, .int 0, .int 0, .int 0, .int 0, .int 0, .ref mna, .ref mpi, .ref mca, .ref mwa, .int 0, .ref mrd])), (mtp, .inl (k_mtp, 96, .inl f15))]) X Z70 1 0 rfl rfl (zz_in 7 96 rfl) dX7_feed_74 (fun _ => rfl) (fun f15 ef16 H75 locs76 Z77 => ?_)
  clear Z70
  refine lv_aload_n hx hb dX7_feed_75 rfl (lv_at hl74 2 rfl) ?_
  refine lv_dup hx hb dX7_feed_76 rfl ?_
  refine zz_get X Z77 0 rfl rfl (fun w h => List.mem_cons_of_mem _ (List.mem_append_right _ h)) 14 rfl (zz_m 1 rfl) rfl dX7_feed_77 ?_
  refine lv_iconst (v := 1) hx hb dX7_feed_80 (by decide) ?_
  refine lv_iadd hx hb dX7_feed_81 ?_
  refine zz_v (v := 8) (by decide) ?_
  refine zz_put (WS' := [(mo, .inr (7, [.ref ms, .ref mi, .ref ma, .int 0, .ref mts, .ref mtz, .ref mtn, .ref mh, .ref mhn, .ref mhw, .ref mhz, .ref mhr, .ref mcl, .ref mtp, .int 8, .int 0, .int 0, .int 0, .int 0, .int 0, .int 0, .int 0, .int 0, .int 0, .int 0, .ref mna, .ref mpi, .ref mca, .ref mwa, .int 0, .ref mrd])), (mtp, .inl (k_mtp, 96, .inl f15))]) X Z77 0 rfl rfl (fun w h => List.mem_cons_of_mem _ (List.mem_append_right _ h)) tyX7 tyX7_ok nmX7 14 rfl (zz_m 1 rfl) rfl rfl rfl rfl dX7_feed_82 rfl (fun H78 locs79 Z80 => ?_)
  clear Z77
  refine lv_iinc (v := 8) (lv' := [(4, .int 8), (5, .int a2), (0, .ref mo), (1, .int a1), (2, .int a2), (3, .int a3)]) hx hb dX7_feed_85 hl74 (k := 1) rfl (by decide) (by decide) rfl (fun ls81 hl82 => ?_)
  clear hl74
  refine lv_goto (tgt := 18) hx hb dX7_feed_88 (by decide) ?_
  refine lv_iload hx hb dX7_feed_18 (lv_at hl82 0 rfl) ?_
  refine lv_bipush (v := 12) hx hb dX7_feed_20 (by decide) ?_
  refine lv_icmp_ge (tgt := 91) hx hb dX7_feed_22 (by decide) (fun h => absurd h (by decide)) (fun _ => ?_)
  refine lv_iload hx hb dX7_feed_25 (lv_at hl82 0 rfl) ?_
  refine lv_iconst (v := 4) hx hb dX7_feed_27 (by decide) ?_
  refine lv_icmp_ge (tgt := 35) hx hb dX7_feed_28 (by decide) (fun _ => ?_) (fun h => absurd (by decide) h)
  refine lv_iload hx hb dX7_feed_35 (lv_at hl82 0 rfl) ?_
  refine lv_bipush (v := 8) hx hb dX7_feed_37 (by decide) ?_
  refine lv_icmp_ge (tgt := 46) hx hb dX7_feed_39 (by decide) (fun _ => ?_) (fun h => absurd (by decide) h)
  refine lv_iload_n hx hb dX7_feed_46 rfl (lv_at hl82 5 rfl) ?_
  refine lv_istore (lv' := [(5, .int a3), (4, .int 8), (0, .ref mo), (1, .int a1), (2, .int a2), (3, .int a3)]) hx hb dX7_feed_47 hl82 (by decide) rfl (fun ls83 hl84 => ?_)
  clear hl82
  refine lv_aload_n hx hb dX7_feed_49 rfl (lv_at hl84 2 rfl) ?_
  refine zz_get X Z80 0 rfl rfl (fun w h => List.mem_cons_of_mem _ (List.mem_append_right _ h)) 13 rfl (zz_m 3 rfl) rfl dX7_feed_50 ?_
  refine lv_aload_n hx hb dX7_feed_53 rfl (lv_at hl84 2 rfl) ?_
  refine zz_get X Z80 0 rfl rfl (fun w h => List.mem_cons_of_mem _ (List.mem_append_right _ h)) 14 rfl (zz_m 1 rfl) rfl dX7_feed_54 ?_
  refine lv_iload hx hb dX7_feed_57 (lv_at hl84 0 rfl) ?_
  refine lv_bipush (v := 24) hx hb dX7_feed_59 (by decide) ?_
  refine lv_bipush (v := 8) hx hb dX7_feed_61 (by decide) ?_
  refine lv_iload hx hb dX7_feed_63 (lv_at hl84 1 rfl) ?_
  refine lv_iconst (v := 4) hx hb dX7_feed_65 (by decide) ?_
  refine lv_irem hx hb dX7_feed_66 (by decide) ?_
  refine zz_v (v := 0) (by decide) ?_
  refine lv_imul hx hb dX7_feed_67 ?_
  refine zz_v (v := 0) (by decide) ?_
  refine lv_isub hx hb dX7_feed_68 ?_
  refine zz_v (v := 24) (by decide) ?_
  refine lv_ishr hx hb dX7_feed_69 ?_
  refine lv_sipush (v := 255) hx hb dX7_feed_70 (by decide) ?_
  refine lv_iand hx hb dX7_feed_73 ?_
  refine zz_istN (WS' := fun f17 => [(mo, .inr (7, [.ref ms, .ref mi, .ref ma, .int 0, .ref mts, .ref mtz, .ref mtn, .ref mh, .ref mhn, .ref mhw, .ref mhz, .ref mhr, .ref mcl, .ref mtp, .int 8, .int 0, .int 0, .int 0, .int 0, .int 0, .int 0, .int 0, .int 0, .int 0, .int 0, .ref mna, .ref mpi, .ref mca, .ref mwa, .int 0, .ref mrd])), (mtp, .inl (k_mtp, 96, .inl f17))]) X Z80 1 0 rfl rfl (zz_in 8 96 rfl) dX7_feed_74 (fun _ => rfl) (fun f17 ef18 H85 locs86 Z87 => ?_)
  clear Z80
  refine lv_aload_n hx hb dX7_feed_75 rfl (lv_at hl84 2 rfl) ?_
  refine lv_dup hx hb dX7_feed_76 rfl ?_
  refine zz_get X Z87 0 rfl rfl (fun w h => List.mem_cons_of_mem _ (List.mem_append_right _ h)) 14 rfl (zz_m 1 rfl) rfl dX7_feed_77 ?_
  refine lv_iconst (v := 1) hx hb dX7_feed_80 (by decide) ?_
  refine lv_iadd hx hb dX7_feed_81 ?_
  refine zz_v (v := 9) (by decide) ?_
  refine zz_put (WS' := [(mo, .inr (7, [.ref ms, .ref mi, .ref ma, .int 0, .ref mts, .ref mtz, .ref mtn, .ref mh, .ref mhn, .ref mhw, .ref mhz, .ref mhr, .ref mcl, .ref mtp, .int 9, .int 0, .int 0, .int 0, .int 0, .int 0, .int 0, .int 0, .int 0, .int 0, .int 0, .ref mna, .ref mpi, .ref mca, .ref mwa, .int 0, .ref mrd])), (mtp, .inl (k_mtp, 96, .inl f17))]) X Z87 0 rfl rfl (fun w h => List.mem_cons_of_mem _ (List.mem_append_right _ h)) tyX7 tyX7_ok nmX7 14 rfl (zz_m 1 rfl) rfl rfl rfl rfl dX7_feed_82 rfl (fun H88 locs89 Z90 => ?_)
  clear Z87
  refine lv_iinc (v := 9) (lv' := [(4, .int 9), (5, .int a3), (0, .ref mo), (1, .int a1), (2, .int a2), (3, .int a3)]) hx hb dX7_feed_85 hl84 (k := 1) rfl (by decide) (by decide) rfl (fun ls91 hl92 => ?_)
  clear hl84
  refine lv_goto (tgt := 18) hx hb dX7_feed_88 (by decide) ?_
  refine lv_iload hx hb dX7_feed_18 (lv_at hl92 0 rfl) ?_
  refine lv_bipush (v := 12) hx hb dX7_feed_20 (by decide) ?_
  refine lv_icmp_ge (tgt := 91) hx hb dX7_feed_22 (by decide) (fun h => absurd h (by decide)) (fun _ => ?_)
  refine lv_iload hx hb dX7_feed_25 (lv_at hl92 0 rfl) ?_
  refine lv_iconst (v := 4) hx hb dX7_feed_27 (by decide) ?_
  refine lv_icmp_ge (tgt := 35) hx hb dX7_feed_28 (by decide) (fun _ => ?_) (fun h => absurd (by decide) h)
  refine lv_iload hx hb dX7_feed_35 (lv_at hl92 0 rfl) ?_
  refine lv_bipush (v := 8) hx hb dX7_feed_37 (by decide) ?_
  refine lv_icmp_ge (tgt := 46) hx hb dX7_feed_39 (by decide) (fun _ => ?_) (fun h => absurd (by decide) h)
  refine lv_iload_n hx hb dX7_feed_46 rfl (lv_at hl92 5 rfl) ?_
  refine lv_istore (lv' := [(5, .int a3), (4, .int 9), (0, .ref mo), (1, .int a1), (2, .int a2), (3, .int a3)]) hx hb dX7_feed_47 hl92 (by decide) rfl (fun ls93 hl94 => ?_)
  clear hl92
  refine lv_aload_n hx hb dX7_feed_49 rfl (lv_at hl94 2 rfl) ?_
  refine zz_get X Z90 0 rfl rfl (fun w h => List.mem_cons_of_mem _ (List.mem_append_right _ h)) 13 rfl (zz_m 3 rfl) rfl dX7_feed_50 ?_
  refine lv_aload_n hx hb dX7_feed_53 rfl (lv_at hl94 2 rfl) ?_
  refine zz_get X Z90 0 rfl rfl (fun w h => List.mem_cons_of_mem _ (List.mem_append_right _ h)) 14 rfl (zz_m 1 rfl) rfl dX7_feed_54 ?_
  refine lv_iload hx hb dX7_feed_57 (lv_at hl94 0 rfl) ?_
  refine lv_bipush (v := 24) hx hb dX7_feed_59 (by decide) ?_
  refine lv_bipush (v := 8) hx hb dX7_feed_61 (by decide) ?_
  refine lv_iload hx hb dX7_feed_63 (lv_at hl94 1 rfl) ?_
  refine lv_iconst (v := 4) hx hb dX7_feed_65 (by decide) ?_
  refine lv_irem hx hb dX7_feed_66 (by decide) ?_
  refine zz_v (v := 1) (by decide) ?_
  refine lv_imul hx hb dX7_feed_67 ?_
  refine zz_v (v := 8) (by decide) ?_
  refine lv_isub hx hb dX7_feed_68 ?_
  refine zz_v (v := 16) (by decide) ?_
  refine lv_ishr hx hb dX7_feed_69 ?_
  refine lv_sipush (v := 255) hx hb dX7_feed_70 (by decide) ?_
  refine lv_iand hx hb dX7_feed_73 ?_
  refine zz_istN (WS' := fun f19 => [(mo, .inr (7, [.ref ms, .ref mi, .ref ma, .int 0, .ref mts, .ref mtz, .ref mtn, .ref mh, .ref mhn, .ref mhw, .ref mhz, .ref mhr, .ref mcl, .ref mtp, .int 9, .int 0, .int 0, .int 0, .int 0, .int 0, .int 0, .int 0, .int 0, .int 0, .int 0, .ref mna, .ref mpi, .ref mca, .ref mwa, .int 0, .ref mrd])), (mtp, .inl (k_mtp, 96, .inl f19))]) X Z90 1 0 rfl rfl (zz_in 9 96 rfl) dX7_feed_74 (fun _ => rfl) (fun f19 ef20 H95 locs96 Z97 => ?_)
  clear Z90
  refine lv_aload_n hx hb dX7_feed_75 rfl (lv_at hl94 2 rfl) ?_
  refine lv_dup hx hb dX7_feed_76 rfl ?_
  refine zz_get X Z97 0 rfl rfl (fun w h => List.mem_cons_of_mem _ (List.mem_append_right _ h)) 14 rfl (zz_m 1 rfl) rfl dX7_feed_77 ?_
  refine lv_iconst (v := 1) hx hb dX7_feed_80 (by decide) ?_
  refine lv_iadd hx hb dX7_feed_81 ?_
  refine zz_v (v := 10) (by decide) ?_
  refine zz_put (WS' := [(mo, .inr (7, [.ref ms, .ref mi, .ref ma, .int 0, .ref mts, .ref mtz, .ref mtn, .ref mh, .ref mhn, .ref mhw, .ref mhz, .ref mhr, .ref mcl, .ref mtp, .int 10, .int 0, .int 0, .int 0, .int 0, .int 0, .int 0, .int 0, .int 0, .int 0, .int 0, .ref mna, .ref mpi, .ref mca, .ref mwa, .int 0, .ref mrd])), (mtp, .inl (k_mtp, 96, .inl f19))]) X Z97 0 rfl rfl (fun w h => List.mem_cons_of_mem _ (List.mem_append_right _ h)) tyX7 tyX7_ok nmX7 14 rfl (zz_m 1 rfl) rfl rfl rfl rfl dX7_feed_82 rfl (fun H98 locs99 Z100 => ?_)
  clear Z97
  refine lv_iinc (v := 10) (lv' := [(4, .int 10), (5, .int a3), (0, .ref mo), (1, .int a1), (2, .int a2), (3, .int a3)]) hx hb dX7_feed_85 hl94 (k := 1) rfl (by decide) (by decide) rfl (fun ls101 hl102 => ?_)
  clear hl94
  refine lv_goto (tgt := 18) hx hb dX7_feed_88 (by decide) ?_
  refine lv_iload hx hb dX7_feed_18 (lv_at hl102 0 rfl) ?_
  refine lv_bipush (v := 12) hx hb dX7_feed_20 (by decide) ?_
  refine lv_icmp_ge (tgt := 91) hx hb dX7_feed_22 (by decide) (fun h => absurd h (by decide)) (fun _ => ?_)
  refine lv_iload hx hb dX7_feed_25 (lv_at hl102 0 rfl) ?_
  refine lv_iconst (v := 4) hx hb dX7_feed_27 (by decide) ?_
  refine lv_icmp_ge (tgt := 35) hx hb dX7_feed_28 (by decide) (fun _ => ?_) (fun h => absurd (by decide) h)
  refine lv_iload hx hb dX7_feed_35 (lv_at hl102 0 rfl) ?_
  refine lv_bipush (v := 8) hx hb dX7_feed_37 (by decide) ?_
  refine lv_icmp_ge (tgt := 46) hx hb dX7_feed_39 (by decide) (fun _ => ?_) (fun h => absurd (by decide) h)
  refine lv_iload_n hx hb dX7_feed_46 rfl (lv_at hl102 5 rfl) ?_
  refine lv_istore (lv' := [(5, .int a3), (4, .int 10), (0, .ref mo), (1, .int a1), (2, .int a2), (3, .int a3)]) hx hb dX7_feed_47 hl102 (by decide) rfl (fun ls103 hl104 => ?_)
  clear hl102
  refine lv_aload_n hx hb dX7_feed_49 rfl (lv_at hl104 2 rfl) ?_
  refine zz_get X Z100 0 rfl rfl (fun w h => List.mem_cons_of_mem _ (List.mem_append_right _ h)) 13 rfl (zz_m 3 rfl) rfl dX7_feed_50 ?_
  refine lv_aload_n hx hb dX7_feed_53 rfl (lv_at hl104 2 rfl) ?_
  refine zz_get X Z100 0 rfl rfl (fun w h => List.mem_cons_of_mem _ (List.mem_append_right _ h)) 14 rfl (zz_m 1 rfl) rfl dX7_feed_54 ?_
  refine lv_iload hx hb dX7_feed_57 (lv_at hl104 0 rfl) ?_
  refine lv_bipush (v := 24) hx hb dX7_feed_59 (by decide) ?_
  refine lv_bipush (v := 8) hx hb dX7_feed_61 (by decide) ?_
  refine lv_iload hx hb dX7_feed_63 (lv_at hl104 1 rfl) ?_
  refine lv_iconst (v := 4) hx hb dX7_feed_65 (by decide) ?_
  refine lv_irem hx hb dX7_feed_66 (by decide) ?_
  refine zz_v (v := 2) (by decide) ?_
  refine lv_imul hx hb dX7_feed_67 ?_
  refine zz_v (v := 16) (by decide) ?_
  refine lv_isub hx hb dX7_feed_68 ?_
  refine zz_v (v := 8) (by decide) ?_
  refine lv_ishr hx hb dX7_feed_69 ?_
  refine lv_sipush (v := 255) hx hb dX7_feed_70 (by decide) ?_
  refine lv_iand hx hb dX7_feed_73 ?_
  refine zz_istN (WS' := fun f21 => [(mo, .inr (7, [.ref ms, .ref mi, .ref ma, .int 0, .ref mts, .ref mtz, .ref mtn, .ref mh, .ref mhn, .ref mhw, .ref mhz, .ref mhr, .ref mcl, .ref mtp, .int 10, .int 0, .int 0, .int 0, .int 0, .int 0, .int 0, .int 0, .int 0, .int 0, .int 0, .ref mna, .ref mpi, .ref mca, .ref mwa, .int 0, .ref mrd])), (mtp, .inl (k_mtp, 96, .inl f21))]) X Z100 1 0 rfl rfl (zz_in 10 96 rfl) dX7_feed_74 (fun _ => rfl) (fun f21 ef22 H105 locs106 Z107 => ?_)
  clear Z100
  refine lv_aload_n hx hb dX7_feed_75 rfl (lv_at hl104 2 rfl) ?_
  refine lv_dup hx hb dX7_feed_76 rfl ?_
  refine zz_get X Z107 0 rfl rfl (fun w h => List.mem_cons_of_mem _ (List.mem_append_right _ h)) 14 rfl (zz_m 1 rfl) rfl dX7_feed_77 ?_
  refine lv_iconst (v := 1) hx hb dX7_feed_80 (by decide) ?_
  refine lv_iadd hx hb dX7_feed_81 ?_
  refine zz_v (v := 11) (by decide) ?_
  refine zz_put (WS' := [(mo, .inr (7, [.ref ms, .ref mi, .ref ma, .int 0, .ref mts, .ref mtz, .ref mtn, .ref mh, .ref mhn, .ref mhw, .ref mhz, .ref mhr, .ref mcl, .ref mtp, .int 11, .int 0, .int 0, .int 0, .int 0, .int 0, .int 0, .int 0, .int 0, .int 0, .int 0, .ref mna, .ref mpi, .ref mca, .ref mwa, .int 0, .ref mrd])), (mtp, .inl (k_mtp, 96, .inl f21))]) X Z107 0 rfl rfl (fun w h => List.mem_cons_of_mem _ (List.mem_append_right _ h)) tyX7 tyX7_ok nmX7 14 rfl (zz_m 1 rfl) rfl rfl rfl rfl dX7_feed_82 rfl (fun H108 locs109 Z110 => ?_)
  clear Z107
  refine lv_iinc (v := 11) (lv' := [(4, .int 11), (5, .int a3), (0, .ref mo), (1, .int a1), (2, .int a2), (3, .int a3)]) hx hb dX7_feed_85 hl104 (k := 1) rfl (by decide) (by decide) rfl (fun ls111 hl112 => ?_)
  clear hl104
  refine lv_goto (tgt := 18) hx hb dX7_feed_88 (by decide) ?_
  refine lv_iload hx hb dX7_feed_18 (lv_at hl112 0 rfl) ?_
  refine lv_bipush (v := 12) hx hb dX7_feed_20 (by decide) ?_
  refine lv_icmp_ge (tgt := 91) hx hb dX7_feed_22 (by decide) (fun h => absurd h (by decide)) (fun _ => ?_)
  refine lv_iload hx hb dX7_feed_25 (lv_at hl112 0 rfl) ?_
  refine lv_iconst (v := 4) hx hb dX7_feed_27 (by decide) ?_
  refine lv_icmp_ge (tgt := 35) hx hb dX7_feed_28 (by decide) (fun _ => ?_) (fun h => absurd (by decide) h)
  refine lv_iload hx hb dX7_feed_35 (lv_at hl112 0 rfl) ?_
  refine lv_bipush (v := 8) hx hb dX7_feed_37 (by decide) ?_
  refine lv_icmp_ge (tgt := 46) hx hb dX7_feed_39 (by decide) (fun _ => ?_) (fun h => absurd (by decide) h)
  refine lv_iload_n hx hb dX7_feed_46 rfl (lv_at hl112 5 rfl) ?_
  refine lv_istore (lv' := [(5, .int a3), (4, .int 11), (0, .ref mo), (1, .int a1), (2, .int a2), (3, .int a3)]) hx hb dX7_feed_47 hl112 (by decide) rfl (fun ls113 hl114 => ?_)
  clear hl112
  refine lv_aload_n hx hb dX7_feed_49 rfl (lv_at hl114 2 rfl) ?_
  refine zz_get X Z110 0 rfl rfl (fun w h => List.mem_cons_of_mem _ (List.mem_append_right _ h)) 13 rfl (zz_m 3 rfl) rfl dX7_feed_50 ?_
  refine lv_aload_n hx hb dX7_feed_53 rfl (lv_at hl114 2 rfl) ?_
  refine zz_get X Z110 0 rfl rfl (fun w h => List.mem_cons_of_mem _ (List.mem_append_right _ h)) 14 rfl (zz_m 1 rfl) rfl dX7_feed_54 ?_
  refine lv_iload hx hb dX7_feed_57 (lv_at hl114 0 rfl) ?_
  refine lv_bipush (v := 24) hx hb dX7_feed_59 (by decide) ?_
  refine lv_bipush (v := 8) hx hb dX7_feed_61 (by decide) ?_
  refine lv_iload hx hb dX7_feed_63 (lv_at hl114 1 rfl) ?_
  refine lv_iconst (v := 4) hx hb dX7_feed_65 (by decide) ?_
  refine lv_irem hx hb dX7_feed_66 (by decide) ?_
  refine zz_v (v := 3) (by decide) ?_
  refine lv_imul hx hb dX7_feed_67 ?_
  refine zz_v (v := 24) (by decide) ?_
  refine lv_isub hx hb dX7_feed_68 ?_
  refine zz_v (v := 0) (by decide) ?_
  refine lv_ishr hx hb dX7_feed_69 ?_
  refine lv_sipush (v := 255) hx hb dX7_feed_70 (by decide) ?_
  refine lv_iand hx hb dX7_feed_73 ?_
  refine zz_istN (WS' := fun f23 => [(mo, .inr (7, [.ref ms, .ref mi, .ref ma, .int 0, .ref mts, .ref mtz, .ref mtn, .ref mh, .ref mhn, .ref mhw, .ref mhz, .ref mhr, .ref mcl, .ref mtp, .int 11, .int 0, .int 0, .int 0, .int 0, .int 0, .int 0, .int 0, .int 0, .int 0, .int 0, .ref mna, .ref mpi, .ref mca, .ref mwa, .int 0, .ref mrd])), (mtp, .inl (k_mtp, 96, .inl f23))]) X Z110 1 0 rfl rfl (zz_in 11 96 rfl) dX7_feed_74 (fun _ => rfl) (fun f23 ef24 H115 locs116 Z117 => ?_)
  clear Z110
  refine lv_aload_n hx hb dX7_feed_75 rfl (lv_at hl114 2 rfl) ?_
  refine lv_dup hx hb dX7_feed_76 rfl ?_
  refine zz_get X Z117 0 rfl rfl (fun w h => List.mem_cons_of_mem _ (List.mem_append_right _ h)) 14 rfl (zz_m 1 rfl) rfl dX7_feed_77 ?_
  refine lv_iconst (v := 1) hx hb dX7_feed_80 (by decide) ?_
  refine lv_iadd hx hb dX7_feed_81 ?_
  refine zz_v (v := 12) (by decide) ?_
  refine zz_put (WS' := [(mo, .inr (7, [.ref ms, .ref mi, .ref ma, .int 0, .ref mts, .ref mtz, .ref mtn, .ref mh, .ref mhn, .ref mhw, .ref mhz, .ref mhr, .ref mcl, .ref mtp, .int 12, .int 0, .int 0, .int 0, .int 0, .int 0, .int 0, .int 0, .int 0, .int 0, .int 0, .ref mna, .ref mpi, .ref mca, .ref mwa, .int 0, .ref mrd])), (mtp, .inl (k_mtp, 96, .inl f23))]) X Z117 0 rfl rfl (fun w h => List.mem_cons_of_mem _ (List.mem_append_right _ h)) tyX7 tyX7_ok nmX7 14 rfl (zz_m 1 rfl) rfl rfl rfl rfl dX7_feed_82 rfl (fun H118 locs119 Z120 => ?_)
  clear Z117
  refine lv_iinc (v := 12) (lv' := [(4, .int 12), (5, .int a3), (0, .ref mo), (1, .int a1), (2, .int a2), (3, .int a3)]) hx hb dX7_feed_85 hl114 (k := 1) rfl (by decide) (by decide) rfl (fun ls121 hl122 => ?_)
  clear hl114
  refine lv_goto (tgt := 18) hx hb dX7_feed_88 (by decide) ?_
  refine lv_iload hx hb dX7_feed_18 (lv_at hl122 0 rfl) ?_
  refine lv_bipush (v := 12) hx hb dX7_feed_20 (by decide) ?_
  refine lv_icmp_ge (tgt := 91) hx hb dX7_feed_22 (by decide) (fun _ => ?_) (fun h => absurd (by decide) h)
  refine lv_aload_n hx hb dX7_feed_91 rfl (lv_at hl122 2 rfl) ?_
  refine zz_get X Z120 0 rfl rfl (fun w h => List.mem_cons_of_mem _ (List.mem_append_right _ h)) 14 rfl (zz_m 1 rfl) rfl dX7_feed_92 ?_
  exact zz_iret X hr hlk Z120 () rfl [] [] (by decide +kernel) rfl rfl dX7_feed_95

set_option maxHeartbeats 4000000 in
set_option maxRecDepth 100000 in
theorem c7_textAt (l : Launch) (D : va_G) (mo : Nat) (ms : Nat) (mi : Nat) (ma : Nat) (mts : Nat) (mtz : Nat) (mtn : Nat) (mh : Nat) (mhn : Nat) (mhw : Nat) (mhz : Nat) (mhr : Nat) (mcl : Nat) (mtp : Nat) (mna : Nat) (mpi : Nat) (mca : Nat) (mwa : Nat) (mrd : Nat) (j3 : Int32) (j14 : Int32) (j15 : Int32) (j16 : Int32) (j17 : Int32) (j18 : Int32) (j19 : Int32) (j20 : Int32) (j21 : Int32) (j22 : Int32) (j23 : Int32) (j24 : Int32) (j29 : Int32)  : zz_MI l yX7_textAt wsX7_textAt 0 0 0 0 D [.ref mo, .int 0] [(mo, .inr (7, [.ref ms, .ref mi, .ref ma, .int j3, .ref mts, .ref mtz, .ref mtn, .ref mh, .ref mhn, .ref mhw, .ref mhz, .ref mhr, .ref mcl, .ref mtp, .int j14, .int j15, .int j16, .int j17, .int j18, .int j19, .int j20, .int j21, .int j22, .int j23, .int j24, .ref mna, .ref mpi, .ref mca, .ref mwa, .int j29, .ref mrd]))] [] (fun (r : Int32) (u : Unit) => r = 47) (fun (u : Unit) => [(mo, .inr (7, [.ref ms, .ref mi, .ref ma, .int j3, .ref mts, .ref mtz, .ref mtn, .ref mh, .ref mhn, .ref mhw, .ref mhz, .ref mhr, .ref mcl, .ref mtp, .int j14, .int j15, .int j16, .int j17, .int j18, .int j19, .int j20, .int j21, .int j22, .int j23, .int j24, .ref mna, .ref mpi, .ref mca, .ref mwa, .int j29, .ref mrd]))]) (fun (u : Unit) => []) := by
  intro sz
  refine Met.ofW (cc := cX7_textAt) (maxL := 2) (ret := (some .int)) (by decide) rfl ?_
  intro p e s m args below meth c s₁ B hml hv
  obtain ⟨rfl, hC⟩ := hv
  have hx := B.exec
  have hb := B.bytes
  have hr := B.returns
  have hts := atoms_spec (ws := wsX7_textAt) B.pre
  have hown : s.vm.findClass RX7 = some m.cls := findClass_of_methodNamed B.named
  have hlk := B.notSynchronized
  have X : CallFix p m c cX7_textAt 2 s _ wsX7_textAt RX7 := ⟨hx, hb, hml, hown, hts⟩
  have Z := zz_enter hC
  generalize va_A [(mo, .inr (7, [.ref ms, .ref mi, .ref ma, .int j3, .ref mts, .ref mtz, .ref mtn, .ref mh, .ref mhn, .ref mhw, .ref mhz, .ref mhr, .ref mcl, .ref mtp, .int j14, .int j15, .int j16, .int j17, .int j18, .int j19, .int j20, .int j21, .int j22, .int j23, .int j24, .ref mna, .ref mpi, .ref mca, .ref mwa, .int j29, .ref mrd]))] sz = A at Z ⊢
  have hl := lv_entry ([.ref mo, .int 0]) (n := 2) (Nat.le_of_ble_eq_true rfl)
  rw [lg_entry_eq]
  generalize (lg_sl ([.ref mo, .int 0]) ++ List.replicate (2 - (lg_sl ([.ref mo, .int 0])).length) Slot.unset).toArray = ls at hl ⊢
  have hl : lv_has ls 2 [(0, .ref mo), (1, .int 0)] := hl
  refine lv_bipush (v := 47) hx hb dX7_textAt_0 (by decide) ?_
  refine lv_sipush (v := 200) hx hb dX7_textAt_2 (by decide) ?_
  refine lv_iload_n hx hb dX7_textAt_5 rfl (lv_at hl 1 rfl) ?_
  refine lv_imul hx hb dX7_textAt_6 ?_
  refine zz_v (v := 0) (by decide) ?_
  refine lv_iadd hx hb dX7_textAt_7 ?_
  refine zz_v (v := 47) (by decide) ?_
  exact zz_iret X hr hlk Z () rfl [0] [] (by decide +kernel) rfl rfl dX7_textAt_8

set_option maxHeartbeats 4000000 in
set_option maxRecDepth 100000 in
theorem c7_nextToken (l : Launch) (D : va_G) (mo : Nat) (ms : Nat) (mi : Nat) (ma : Nat) (mts : Nat) (mtz : Nat) (mtn : Nat) (mh : Nat) (mhn : Nat) (mhw : Nat) (mhz : Nat) (mhr : Nat) (mcl : Nat) (mtp : Nat) (mna : Nat) (mpi : Nat) (mca : Nat) (mwa : Nat) (mrd : Nat) (j23 : Int32)  : zz_MV l yX7_nextToken wsX7_nextToken 0 0 0 0 D [.ref mo] [(mo, .inr (7, [.ref ms, .ref mi, .ref ma, .int 0, .ref mts, .ref mtz, .ref mtn, .ref mh, .ref mhn, .ref mhw, .ref mhz, .ref mhr, .ref mcl, .ref mtp, .int 0, .int 0, .int 0, .int 3, .int 0, .int 0, .int 0, .int 0, .int 0, .int j23, .int 0, .ref mna, .ref mpi, .ref mca, .ref mwa, .int 0, .ref mrd]))] [] (fun (u : Unit) => True) (fun (u : Unit) => [(mo, .inr (7, [.ref ms, .ref mi, .ref ma, .int 0, .ref mts, .ref mtz, .ref mtn, .ref mh, .ref mhn, .ref mhw, .ref mhz, .ref mhr, .ref mcl, .ref mtp, .int 0, .int 0, .int 0, .int 0, .int 0, .int 0, .int 0, .int 0, .int 0, .int j23, .int 0, .ref mna, .ref mpi, .ref mca, .ref mwa, .int 0, .ref mrd]))]) (fun (u : Unit) => []) := by
  intro sz
  refine Met.ofW (cc := cX7_nextToken) (maxL := 3) (ret := none) (by decide) rfl ?_
  intro p e s m args below meth c s₁ B hml hv
  obtain ⟨rfl, hC⟩ := hv
  have hx := B.exec
  have hb := B.bytes
  have hr := B.returns
  have hts := atoms_spec (ws := wsX7_nextToken) B.pre
  have hown : s.vm.findClass RX7 = some m.cls := findClass_of_methodNamed B.named
  have hlk := B.notSynchronized
  have X : CallFix p m c cX7_nextToken 3 s _ wsX7_nextToken RX7 := ⟨hx, hb, hml, hown, hts⟩
  have Z := zz_enter hC
  generalize va_A [(mo, .inr (7, [.ref ms, .ref mi, .ref ma, .int 0, .ref mts, .ref mtz, .ref mtn, .ref mh, .ref mhn, .ref mhw, .ref mhz, .ref mhr, .ref mcl, .ref mtp, .int 0, .int 0, .int 0, .int 3, .int 0, .int 0, .int 0, .int 0, .int 0, .int j23, .int 0, .ref mna, .ref mpi, .ref mca, .ref mwa, .int 0, .ref mrd]))] sz = A at Z ⊢
  have hl := lv_entry ([.ref mo]) (n := 3) (Nat.le_of_ble_eq_true rfl)
  rw [lg_entry_eq]
  generalize (lg_sl ([.ref mo]) ++ List.replicate (3 - (lg_sl ([.ref mo])).length) Slot.unset).toArray = ls at hl ⊢
  have hl : lv_has ls 3 [(0, .ref mo)] := hl
  refine lv_aload_n hx hb dX7_nextToken_0 rfl (lv_at hl 0 rfl) ?_
  refine zz_get X Z 0 rfl rfl (fun w h => List.mem_cons_of_mem _ (List.mem_append_right _ h)) 16 rfl (zz_m 1 rfl) rfl dX7_nextToken_1 ?_
  refine lv_if_le (tgt := 27) hx hb dX7_nextToken_4 (by decide) (fun _ => ?_) (fun h => absurd (by decide) h)
  refine lv_iconst (v := 0) hx hb dX7_nextToken_27 (by decide) ?_
  refine lv_istore_n (lv' := [(1, .int 0), (0, .ref mo)]) hx hb dX7_nextToken_28 rfl hl (by decide) rfl (fun ls1 hl2 => ?_)
  clear hl
  refine lv_aload_n hx hb dX7_nextToken_29 rfl (lv_at hl2 1 rfl) ?_
  refine zz_get X Z 0 rfl rfl (fun w h => List.mem_cons_of_mem _ (List.mem_append_right _ h)) 16 rfl (zz_m 1 rfl) rfl dX7_nextToken_30 ?_
  refine lv_istore_n (lv' := [(2, .int 0), (1, .int 0), (0, .ref mo)]) hx hb dX7_nextToken_33 rfl hl2 (by decide) rfl (fun ls3 hl4 => ?_)
  clear hl2
  refine lv_aload_n hx hb dX7_nextToken_34 rfl (lv_at hl4 2 rfl) ?_
  refine zz_get X Z 0 rfl rfl (fun w h => List.mem_cons_of_mem _ (List.mem_append_right _ h)) 16 rfl (zz_m 1 rfl) rfl dX7_nextToken_35 ?_
  refine lv_aload_n hx hb dX7_nextToken_38 rfl (lv_at hl4 2 rfl) ?_
  refine zz_get X Z 0 rfl rfl (fun w h => List.mem_cons_of_mem _ (List.mem_append_right _ h)) 14 rfl (zz_m 3 rfl) rfl dX7_nextToken_39 ?_
  refine lv_icmp_ge (tgt := 72) hx hb dX7_nextToken_42 (by decide) (fun _ => ?_) (fun h => absurd (by decide) h)
  refine lv_iload_n hx hb dX7_nextToken_72 rfl (lv_at hl4 1 rfl) ?_
  refine lv_if_eq (tgt := 88) hx hb dX7_nextToken_73 (by decide) (fun _ => ?_) (fun h => absurd (by decide) h)
  refine lv_iconst (v := 0) hx hb dX7_nextToken_88 (by decide) ?_
  refine lv_istore_n (lv' := [(1, .int 0), (2, .int 0), (0, .ref mo)]) hx hb dX7_nextToken_89 rfl hl4 (by decide) rfl (fun ls5 hl6 => ?_)
  clear hl4
  refine lv_aload_n hx hb dX7_nextToken_90 rfl (lv_at hl6 2 rfl) ?_
  refine lv_aload_n hx hb dX7_nextToken_91 rfl (lv_at hl6 2 rfl) ?_
  refine zz_get X Z 0 rfl rfl (fun w h => List.mem_cons_of_mem _ (List.mem_append_right _ h)) 16 rfl (zz_m 1 rfl) rfl dX7_nextToken_92 ?_
  refine zz_put (WS' := [(mo, .inr (7, [.ref ms, .ref mi, .ref ma, .int 0, .ref mts, .ref mtz, .ref mtn, .ref mh, .ref mhn, .ref mhw, .ref mhz, .ref mhr, .ref mcl, .ref mtp, .int 0, .int 0, .int 0, .int 3, .int 0, .int 0, .int 0, .int 0, .int 0, .int j23, .int 0, .ref mna, .ref mpi, .ref mca, .ref mwa, .int 0, .ref mrd]))]) X Z 0 rfl rfl (fun w h => List.mem_cons_of_mem _ (List.mem_append_right _ h)) tyX7 tyX7_ok nmX7 15 rfl (zz_m 5 rfl) rfl rfl rfl rfl dX7_nextToken_95 rfl (fun H7 locs8 Z9 => ?_)
  clear Z
  refine lv_aload_n hx hb dX7_nextToken_98 rfl (lv_at hl6 2 rfl) ?_
  refine zz_get X Z9 0 rfl rfl (fun w h => List.mem_cons_of_mem _ (List.mem_append_right _ h)) 15 rfl (zz_m 5 rfl) rfl dX7_nextToken_99 ?_
  refine lv_aload_n hx hb dX7_nextToken_102 rfl (lv_at hl6 2 rfl) ?_
  refine zz_get X Z9 0 rfl rfl (fun w h => List.mem_cons_of_mem _ (List.mem_append_right _ h)) 14 rfl (zz_m 3 rfl) rfl dX7_nextToken_103 ?_
  refine lv_icmp_ne (tgt := 117) hx hb dX7_nextToken_106 (by decide) (fun h => absurd (by decide) h) (fun _ => ?_)
  refine lv_aload_n hx hb dX7_nextToken_109 rfl (lv_at hl6 2 rfl) ?_
  refine lv_iconst (v := 0) hx hb dX7_nextToken_110 (by decide) ?_
  refine zz_put (WS' := [(mo, .inr (7, [.ref ms, .ref mi, .ref ma, .int 0, .ref mts, .ref mtz, .ref mtn, .ref mh, .ref mhn, .ref mhw, .ref mhz, .ref mhr, .ref mcl, .ref mtp, .int 0, .int 0, .int 0, .int 0, .int 0, .int 0, .int 0, .int 0, .int 0, .int j23, .int 0, .ref mna, .ref mpi, .ref mca, .ref mwa, .int 0, .ref mrd]))]) X Z9 0 rfl rfl (fun w h => List.mem_cons_of_mem _ (List.mem_append_right _ h)) tyX7 tyX7_ok nmX7 17 rfl (zz_m 2 rfl) rfl rfl rfl rfl dX7_nextToken_111 rfl (fun H10 locs11 Z12 => ?_)
  clear Z9
  refine lv_goto (tgt := 339) hx hb dX7_nextToken_114 (by decide) ?_
  exact zz_vret X hr hlk Z12 () trivial [0] [] (by decide +kernel) rfl rfl dX7_nextToken_339

set_option maxHeartbeats 4000000 in
set_option maxRecDepth 100000 in
theorem c7_isWordAt (l : Launch) (D : va_G) (mo : Nat) (ms : Nat) (mi : Nat) (ma : Nat) (mts : Nat) (mtz : Nat) (mtn : Nat) (mh : Nat) (mhn : Nat) (mhw : Nat) (mhz : Nat) (mhr : Nat) (mcl : Nat) (mtp : Nat) (mna : Nat) (mpi : Nat) (mca : Nat) (mwa : Nat) (mrd : Nat) (j23 : Int32) (c1 : Int32) (c2 : Int32) (c3 : Int32) (c4 : Int32)  : zz_MI l yX7_isWordAt wsX7_isWordAt 0 0 0 0 D [.ref mo, .int c1, .int c2, .int c3, .int c4] [(mo, .inr (7, [.ref ms, .ref mi, .ref ma, .int 0, .ref mts, .ref mtz, .ref mtn, .ref mh, .ref mhn, .ref mhw, .ref mhz, .ref mhr, .ref mcl, .ref mtp, .int 0, .int 0, .int 0, .int 0, .int 0, .int 0, .int 0, .int 0, .int 0, .int j23, .int 0, .ref mna, .ref mpi, .ref mca, .ref mwa, .int 0, .ref mrd]))] [] (fun (r : Int32) (u : Unit) => r = 0) (fun (u : Unit) => [(mo, .inr (7, [.ref ms, .ref mi, .ref ma, .int 0, .ref mts, .ref mtz, .ref mtn, .ref mh, .ref mhn, .ref mhw, .ref mhz, .ref mhr, .ref mcl, .ref mtp, .int 0, .int 0, .int 0, .int 0, .int 0, .int 0, .int 0, .int 0, .int 0, .int j23, .int 0, .ref mna, .ref mpi, .ref mca, .ref mwa, .int 0, .ref mrd]))]) (fun (u : Unit) => []) := by
  intro sz
  refine Met.ofW (cc := cX7_isWordAt) (maxL := 6) (ret := (some .boolean)) (by decide) rfl ?_
  intro p e s m args below meth c s₁ B hml hv
  obtain ⟨rfl, hC⟩ := hv
  have hx := B.exec
  have hb := B.bytes
  have hr := B.returns
  have hts := atoms_spec (ws := wsX7_isWordAt) B.pre
  have hown : s.vm.findClass RX7 = some m.cls := findClass_of_methodNamed B.named
  have hlk := B.notSynchronized
  have X : CallFix p m c cX7_isWordAt 6 s _ wsX7_isWordAt RX7 := ⟨hx, hb, hml, hown, hts⟩
  have Z := zz_enter hC
  generalize va_A [(mo, .inr (7, [.ref ms, .ref mi, .ref ma, .int 0, .ref mts, .ref mtz, .ref mtn, .ref mh, .ref mhn, .ref mhw, .ref mhz, .ref mhr, .ref mcl, .ref mtp, .int 0, .int 0, .int 0, .int 0, .int 0, .int 0, .int 0, .int 0, .int 0, .int j23, .int 0, .ref mna, .ref mpi, .ref mca, .ref mwa, .int 0, .ref mrd]))] sz = A at Z ⊢
  have hl := lv_entry ([.ref mo, .int c1, .int c2, .int c3, .int c4]) (n := 6) (Nat.le_of_ble_eq_true rfl)
  rw [lg_entry_eq]
  generalize (lg_sl ([.ref mo, .int c1, .int c2, .int c3, .int c4]) ++ List.replicate (6 - (lg_sl ([.ref mo, .int c1, .int c2, .int c3, .int c4])).length) Slot.unset).toArray = ls at hl ⊢
  have hl : lv_has ls 6 [(0, .ref mo), (1, .int c1), (2, .int c2), (3, .int c3), (4, .int c4)] := hl
  refine lv_iload hx hb dX7_isWordAt_0 (lv_at hl 4 rfl) ?_
  refine lv_if_ne (tgt := 9) hx hb dX7_isWordAt_2 (by decide) (fun b1 => ?_) (fun b1 => ?_)
  · refine lv_iconst (v := 4) hx hb dX7_isWordAt_9 (by decide) ?_
    refine lv_istore (lv' := [(5, .int 4), (0, .ref mo), (1, .int c1), (2, .int c2), (3, .int c3), (4, .int c4)]) hx hb dX7_isWordAt_10 hl (by decide) rfl (fun ls1 hl2 => ?_)
    clear hl
    refine lv_aload_n hx hb dX7_isWordAt_12 rfl (lv_at hl2 1 rfl) ?_
    refine zz_get X Z 0 rfl rfl (fun w h => List.mem_cons_of_mem _ (List.mem_append_right _ h)) 17 rfl (zz_m 1 rfl) rfl dX7_isWordAt_13 ?_
    refine lv_iconst (v := 1) hx hb dX7_isWordAt_16 (by decide) ?_
    refine lv_icmp_ne (tgt := 102) hx hb dX7_isWordAt_17 (by decide) (fun _ => ?_) (fun h => absurd h (by decide))
    refine lv_iconst (v := 0) hx hb dX7_isWordAt_102 (by decide) ?_
    exact zz_zret X hr hlk Z (by decide) () rfl [0] [] (by decide +kernel) rfl rfl dX7_isWordAt_103
  · refine lv_iconst (v := 3) hx hb dX7_isWordAt_5 (by decide) ?_
    refine lv_goto (tgt := 10) hx hb dX7_isWordAt_6 (by decide) ?_
    refine lv_istore (lv' := [(5, .int 3), (0, .ref mo), (1, .int c1), (2, .int c2), (3, .int c3), (4, .int c4)]) hx hb dX7_isWordAt_10 hl (by decide) rfl (fun ls3 hl4 => ?_)
    clear hl
    refine lv_aload_n hx hb dX7_isWordAt_12 rfl (lv_at hl4 1 rfl) ?_
    refine zz_get X Z 0 rfl rfl (fun w h => List.mem_cons_of_mem _ (List.mem_append_right _ h)) 17 rfl (zz_m 1 rfl) rfl dX7_isWordAt_13 ?_
    refine lv_iconst (v := 1) hx hb dX7_isWordAt_16 (by decide) ?_
    refine lv_icmp_ne (tgt := 102) hx hb dX7_isWordAt_17 (by decide) (fun _ => ?_) (fun h => absurd h (by decide))
    refine lv_iconst (v := 0) hx hb dX7_isWordAt_102 (by decide) ?_
    exact zz_zret X hr hlk Z (by decide) () rfl [0] [] (by decide +kernel) rfl rfl dX7_isWordAt_103

set_option maxHeartbeats 4000000 in
set_option maxRecDepth 100000 in
theorem c7_key (l : Launch) (D : va_G) (mo : Nat) (ms : Nat) (mi : Nat) (ma : Nat) (mts : Nat) (mtz : Nat) (mtn : Nat) (mh : Nat) (mhn : Nat) (mhw : Nat) (mhz : Nat) (mhr : Nat) (mcl : Nat) (mtp : Nat) (mna : Nat) (mpi : Nat) (mca : Nat) (mwa : Nat) (mrd : Nat) (j23 : Int32)  : zz_MI l yX7_key wsX7_key 1 25 0 0 D [.ref mo] [(mo, .inr (7, [.ref ms, .ref mi, .ref ma, .int 0, .ref mts, .ref mtz, .ref mtn, .ref mh, .ref mhn, .ref mhw, .ref mhz, .ref mhr, .ref mcl, .ref mtp, .int 0, .int 0, .int 0, .int 0, .int 0, .int 0, .int 0, .int 0, .int 0, .int j23, .int 0, .ref mna, .ref mpi, .ref mca, .ref mwa, .int 0, .ref mrd]))] [] (fun (r : Int32) (u : Unit) => r = (-1)) (fun (u : Unit) => [(mo, .inr (7, [.ref ms, .ref mi, .ref ma, .int 0, .ref mts, .ref mtz, .ref mtn, .ref mh, .ref mhn, .ref mhw, .ref mhz, .ref mhr, .ref mcl, .ref mtp, .int 0, .int 0, .int 0, .int 0, .int 0, .int 0, .int 0, .int 0, .int 0, .int j23, .int 0, .ref mna, .ref mpi, .ref mca, .ref mwa, .int 0, .ref mrd]))]) (fun (u : Unit) => []) := by
  intro sz
  refine Met.ofW (cc := cX7_key) (maxL := 1) (ret := (some .int)) (by decide) rfl ?_
  intro p e s m args below meth c s₁ B hml hv
  obtain ⟨rfl, hC⟩ := hv
  have hx := B.exec
  have hb := B.bytes
  have hr := B.returns
  have hts := atoms_spec (ws := wsX7_key) B.pre
  have hown : s.vm.findClass RX7 = some m.cls := findClass_of_methodNamed B.named
  have hlk := B.notSynchronized
  have X : CallFix p m c cX7_key 1 s _ wsX7_key RX7 := ⟨hx, hb, hml, hown, hts⟩
  have Z := zz_enter hC
  generalize va_A [(mo, .inr (7, [.ref ms, .ref mi, .ref ma, .int 0, .ref mts, .ref mtz, .ref mtn, .ref mh, .ref mhn, .ref mhw, .ref mhz, .ref mhr, .ref mcl, .ref mtp, .int 0, .int 0, .int 0, .int 0, .int 0, .int 0, .int 0, .int 0, .int 0, .int j23, .int 0, .ref mna, .ref mpi, .ref mca, .ref mwa, .int 0, .ref mrd]))] sz = A at Z ⊢
  have hl := lv_entry ([.ref mo]) (n := 1) (Nat.le_of_ble_eq_true rfl)
  rw [lg_entry_eq]
  generalize (lg_sl ([.ref mo]) ++ List.replicate (1 - (lg_sl ([.ref mo])).length) Slot.unset).toArray = ls at hl ⊢
  have hl : lv_has ls 1 [(0, .ref mo)] := hl
  refine lv_aload_n hx hb dX7_key_0 rfl (lv_at hl 0 rfl) ?_
  refine lv_bipush (v := 109) hx hb dX7_key_1 (by decide) ?_
  refine lv_bipush (v := 101) hx hb dX7_key_3 (by decide) ?_
  refine lv_bipush (v := 108) hx hb dX7_key_5 (by decide) ?_
  refine lv_bipush (v := 116) hx hb dX7_key_7 (by decide) ?_
  refine zz_ci (WC := [(mo, .inr (7, [.ref ms, .ref mi, .ref ma, .int 0, .ref mts, .ref mtz, .ref mtn, .ref mh, .ref mhn, .ref mhw, .ref mhz, .ref mhr, .ref mcl, .ref mtp, .int 0, .int 0, .int 0, .int 0, .int 0, .int 0, .int 0, .int 0, .int 0, .int j23, .int 0, .ref mna, .ref mpi, .ref mca, .ref mwa, .int 0, .ref mrd]))]) (TC := []) (WR := []) (TR := []) (k := 0) (n := 0) Z [0] [] [] [] rfl rfl (by decide +kernel) (by decide +kernel) (by decide +kernel) rfl rfl (fun Zc => va_runV (As := [.int 109, .int 101, .int 108, .int 116]) (rest := []) X (c7_isWordAt l D mo ms mi ma mts mtz mtn mh mhn mhw mhz mhr mcl mtp mna mpi mca mwa mrd j23 109 101 108 116 s.heap.size) (cwV 4 hts gX7_key_X7_isWordAt rfl rfl rfl ⟨rfl, zh_X7_isWordAt⟩ ⟨Nat.le_of_ble_eq_true rfl, Nat.le_of_ble_eq_true rfl⟩) (zz_pV (ci := 7) Zc 0 rfl rfl) rfl rfl hl.1 rfl (lv_room (Nat.le_of_ble_eq_true rfl)) dX7_key_9 ⟨Nat.le_of_ble_eq_true rfl, Nat.le_of_ble_eq_true rfl⟩) rfl rfl (fun r3 u1 H1 locs2 hw2 Z3 => ?_)
  clear Z
  have hw2 : r3 = 0 := hw2.trans (by decide)
  subst r3
  have Z4 : zz_S D A s [(mo, .inr (7, [.ref ms, .ref mi, .ref ma, .int 0, .ref mts, .ref mtz, .ref mtn, .ref mh, .ref mhn, .ref mhw, .ref mhz, .ref mhr, .ref mcl, .ref mtp, .int 0, .int 0, .int 0, .int 0, .int 0, .int 0, .int 0, .int 0, .int 0, .int j23, .int 0, .ref mna, .ref mpi, .ref mca, .ref mwa, .int 0, .ref mrd]))] [] H1 locs2 := Z3
  clear Z3
  refine lv_if_eq (tgt := 17) hx hb dX7_key_12 (by decide) (fun _ => ?_) (fun h => absurd (by decide) h)
  refine lv_aload_n hx hb dX7_key_17 rfl (lv_at hl 0 rfl) ?_
  refine lv_bipush (v := 102) hx hb dX7_key_18 (by decide) ?_
  refine lv_bipush (v := 101) hx hb dX7_key_20 (by decide) ?_
  refine lv_bipush (v := 101) hx hb dX7_key_22 (by decide) ?_
  refine lv_iconst (v := 0) hx hb dX7_key_24 (by decide) ?_
  refine zz_ci (WC := [(mo, .inr (7, [.ref ms, .ref mi, .ref ma, .int 0, .ref mts, .ref mtz, .ref mtn, .ref mh, .ref mhn, .ref mhw, .ref mhz, .ref mhr, .ref mcl, .ref mtp, .int 0, .int 0, .int 0, .int 0, .int 0, .int 0, .int 0, .int 0, .int 0, .int j23, .int 0, .ref mna, .ref mpi, .ref mca, .ref mwa, .int 0, .ref mrd]))]) (TC := []) (WR := []) (TR := []) (k := 0) (n := 0) Z4 [0] [] [] [] rfl rfl (by decide +kernel) (by decide +kernel) (by decide +kernel) rfl rfl (fun Zc => va_runV (As := [.int 102, .int 101, .int 101, .int 0]) (rest := []) X (c7_isWordAt l D mo ms mi ma mts mtz mtn mh mhn mhw mhz mhr mcl mtp mna mpi mca mwa mrd j23 102 101 101 0 H1.size) (cwV 4 hts gX7_key_X7_isWordAt rfl rfl rfl ⟨rfl, zh_X7_isWordAt⟩ ⟨Nat.le_of_ble_eq_true rfl, Nat.le_of_ble_eq_true rfl⟩) (zz_pV (ci := 7) Zc 0 rfl rfl) rfl rfl hl.1 rfl (lv_room (Nat.le_of_ble_eq_true rfl)) dX7_key_25 ⟨Nat.le_of_ble_eq_true rfl, Nat.le_of_ble_eq_true rfl⟩) rfl rfl (fun r6 u4 H5 locs6 hw5 Z7 => ?_)
  clear Z4
  have hw5 : r6 = 0 := hw5.trans (by decide)
  subst r6
  have Z8 : zz_S D A s [(mo, .inr (7, [.ref ms, .ref mi, .ref ma, .int 0, .ref mts, .ref mtz, .ref mtn, .ref mh, .ref mhn, .ref mhw, .ref mhz, .ref mhr, .ref mcl, .ref mtp, .int 0, .int 0, .int 0, .int 0, .int 0, .int 0, .int 0, .int 0, .int 0, .int j23, .int 0, .ref mna, .ref mpi, .ref mca, .ref mwa, .int 0, .ref mrd]))] [] H5 locs6 := Z7
  clear Z7
  refine lv_if_eq (tgt := 33) hx hb dX7_key_28 (by decide) (fun _ => ?_) (fun h => absurd (by decide) h)
  refine lv_aload_n hx hb dX7_key_33 rfl (lv_at hl 0 rfl) ?_
  refine lv_bipush (v := 102) hx hb dX7_key_34 (by decide) ?_
  refine lv_bipush (v := 105) hx hb dX7_key_36 (by decide) ?_
  refine lv_bipush (v := 110) hx hb dX7_key_38 (by decide) ?_
  refine lv_bipush (v := 101) hx hb dX7_key_40 (by decide) ?_
  refine zz_ci (WC := [(mo, .inr (7, [.ref ms, .ref mi, .ref ma, .int 0, .ref mts, .ref mtz, .ref mtn, .ref mh, .ref mhn, .ref mhw, .ref mhz, .ref mhr, .ref mcl, .ref mtp, .int 0, .int 0, .int 0, .int 0, .int 0, .int 0, .int 0, .int 0, .int 0, .int j23, .int 0, .ref mna, .ref mpi, .ref mca, .ref mwa, .int 0, .ref mrd]))]) (TC := []) (WR := []) (TR := []) (k := 0) (n := 0) Z8 [0] [] [] [] rfl rfl (by decide +kernel) (by decide +kernel) (by decide +kernel) rfl rfl (fun Zc => va_runV (As := [.int 102, .int 105, .int 110, .int 101]) (rest := []) X (c7_isWordAt l D mo ms mi ma mts mtz mtn mh mhn mhw mhz mhr mcl mtp mna mpi mca mwa mrd j23 102 105 110 101 H5.size) (cwV 4 hts gX7_key_X7_isWordAt rfl rfl rfl ⟨rfl, zh_X7_isWordAt⟩ ⟨Nat.le_of_ble_eq_true rfl, Nat.le_of_ble_eq_true rfl⟩) (zz_pV (ci := 7) Zc 0 rfl rfl) rfl rfl hl.1 rfl (lv_room (Nat.le_of_ble_eq_true rfl)) dX7_key_42 ⟨Nat.le_of_ble_eq_true rfl, Nat.le_of_ble_eq_true rfl⟩) rfl rfl (fun r9 u7 H9 locs10 hw8 Z11 => ?_)
  clear Z8
  have hw8 : r9 = 0 := hw8.trans (by decide)
  subst r9
  have Z12 : zz_S D A s [(mo, .inr (7, [.ref ms, .ref mi, .ref ma, .int 0, .ref mts, .ref mtz, .ref mtn, .ref mh, .ref mhn, .ref mhw, .ref mhz, .ref mhr, .ref mcl, .ref mtp, .int 0, .int 0, .int 0, .int 0, .int 0, .int 0, .int 0, .int 0, .int 0, .int j23, .int 0, .ref mna, .ref mpi, .ref mca, .ref mwa, .int 0, .ref mrd]))] [] H9 locs10 := Z11
  clear Z11
  refine lv_if_eq (tgt := 52) hx hb dX7_key_45 (by decide) (fun _ => ?_) (fun h => absurd (by decide) h)
  refine lv_iconst (v := (-1)) hx hb dX7_key_52 (by decide) ?_
  exact zz_iret X hr hlk Z12 () rfl [0] [] (by decide +kernel) rfl rfl dX7_key_53

set_option maxHeartbeats 4000000 in
set_option maxRecDepth 100000 in
theorem c7_parse (l : Launch) (D : va_G) (mo : Nat) (ms : Nat) (mi : Nat) (ma : Nat) (mts : Nat) (mtz : Nat) (mtn : Nat) (mh : Nat) (mhn : Nat) (mhw : Nat) (mhz : Nat) (mhr : Nat) (mcl : Nat) (mtp : Nat) (mna : Nat) (mpi : Nat) (mca : Nat) (mwa : Nat) (mrd : Nat) (kms : ClassId) (f : (Nat → Int32)) (af_0 : f 0 = 0) (af_1 : f 1 = 0) (af_2 : f 2 = 0) (af_3 : f 3 = 0) (af_4 : f 4 = 0) (af_5 : f 5 = 0) (af_6 : f 6 = 1) (af_7 : f 7 = 0) (af_8 : f 8 = 3) (af_9 : f 9 = 10) (af_10 : f 10 = 0) : zz_MI l yX7_parse wsX7_parse 2 45 0 0 D [.ref mo] [(mo, .inr (7, [.ref ms, .ref mi, .ref ma, .int 0, .ref mts, .ref mtz, .ref mtn, .ref mh, .ref mhn, .ref mhw, .ref mhz, .ref mhr, .ref mcl, .ref mtp, .int 0, .int 0, .int 0, .int 0, .int 0, .int 0, .int 0, .int 0, .int 0, .int 0, .int 0, .ref mna, .ref mpi, .ref mca, .ref mwa, .int 0, .ref mrd])), (ms, .inl (kms, 3047, .inl f))] [(kms, .int)] (fun (r : Int32) (u : Unit) => r = (-1)) (fun (u : Unit) => [(mo, .inr (7, [.ref ms, .ref mi, .ref ma, .int 0, .ref mts, .ref mtz, .ref mtn, .ref mh, .ref mhn, .ref mhw, .ref mhz, .ref mhr, .ref mcl, .ref mtp, .int 0, .int 0, .int 0, .int 0, .int 0, .int 0, .int 0, .int 0, .int 0, .int 51, .int 0, .ref mna, .ref mpi, .ref mca, .ref mwa, .int 0, .ref mrd])), (ms, .inl (kms, 3047, .inl f))]) (fun (u : Unit) => [(kms, .int)]) := by
  intro sz
  refine Met.ofW (cc := cX7_parse) (maxL := 3) (ret := (some .int)) (by decide) rfl ?_
  intro p e s m args below meth c s₁ B hml hv
  obtain ⟨rfl, hC⟩ := hv
  have hx := B.exec
  have hb := B.bytes
  have hr := B.returns
  have hts := atoms_spec (ws := wsX7_parse) B.pre
  have hown : s.vm.findClass RX7 = some m.cls := findClass_of_methodNamed B.named
  have hlk := B.notSynchronized
  have X : CallFix p m c cX7_parse 3 s _ wsX7_parse RX7 := ⟨hx, hb, hml, hown, hts⟩
  have Z := zz_enter hC
  generalize va_A [(mo, .inr (7, [.ref ms, .ref mi, .ref ma, .int 0, .ref mts, .ref mtz, .ref mtn, .ref mh, .ref mhn, .ref mhw, .ref mhz, .ref mhr, .ref mcl, .ref mtp, .int 0, .int 0, .int 0, .int 0, .int 0, .int 0, .int 0, .int 0, .int 0, .int 0, .int 0, .ref mna, .ref mpi, .ref mca, .ref mwa, .int 0, .ref mrd])), (ms, .inl (kms, 3047, .inl f))] sz = A at Z ⊢
  have hl := lv_entry ([.ref mo]) (n := 3) (Nat.le_of_ble_eq_true rfl)
  rw [lg_entry_eq]
  generalize (lg_sl ([.ref mo]) ++ List.replicate (3 - (lg_sl ([.ref mo])).length) Slot.unset).toArray = ls at hl ⊢
  have hl : lv_has ls 3 [(0, .ref mo)] := hl
  refine lv_aload_n hx hb dX7_parse_0 rfl (lv_at hl 0 rfl) ?_
  refine lv_iconst (v := 0) hx hb dX7_parse_1 (by decide) ?_
  refine zz_put (WS' := [(mo, .inr (7, [.ref ms, .ref mi, .ref ma, .int 0, .ref mts, .ref mtz, .ref mtn, .ref mh, .ref mhn, .ref mhw, .ref mhz, .ref mhr, .ref mcl, .ref mtp, .int 0, .int 0, .int 0, .int 0, .int 0, .int 0, .int 0, .int 0, .int 0, .int 0, .int 0, .ref mna, .ref mpi, .ref mca, .ref mwa, .int 0, .ref mrd])), (ms, .inl (kms, 3047, .inl f))]) X Z 0 rfl rfl (fun w h => List.mem_cons_of_mem _ (List.mem_append_right _ h)) tyX7 tyX7_ok nmX7 16 rfl (zz_m 1 rfl) rfl rfl rfl rfl dX7_parse_2 rfl (fun H1 locs2 Z3 => ?_)
  clear Z
  refine lv_aload_n hx hb dX7_parse_5 rfl (lv_at hl 0 rfl) ?_
  refine lv_iconst (v := 3) hx hb dX7_parse_6 (by decide) ?_
  refine zz_put (WS' := [(mo, .inr (7, [.ref ms, .ref mi, .ref ma, .int 0, .ref mts, .ref mtz, .ref mtn, .ref mh, .ref mhn, .ref mhw, .ref mhz, .ref mhr, .ref mcl, .ref mtp, .int 0, .int 0, .int 0, .int 3, .int 0, .int 0, .int 0, .int 0, .int 0, .int 0, .int 0, .ref mna, .ref mpi, .ref mca, .ref mwa, .int 0, .ref mrd])), (ms, .inl (kms, 3047, .inl f))]) X Z3 0 rfl rfl (fun w h => List.mem_cons_of_mem _ (List.mem_append_right _ h)) tyX7 tyX7_ok nmX7 17 rfl (zz_m 2 rfl) rfl rfl rfl rfl dX7_parse_7 rfl (fun H4 locs5 Z6 => ?_)
  clear Z3
  refine lv_aload_n hx hb dX7_parse_10 rfl (lv_at hl 0 rfl) ?_
  refine lv_iconst (v := 0) hx hb dX7_parse_11 (by decide) ?_
  refine zz_put (WS' := [(mo, .inr (7, [.ref ms, .ref mi, .ref ma, .int 0, .ref mts, .ref mtz, .ref mtn, .ref mh, .ref mhn, .ref mhw, .ref mhz, .ref mhr, .ref mcl, .ref mtp, .int 0, .int 0, .int 0, .int 3, .int 0, .int 0, .int 0, .int 0, .int 0, .int 0, .int 0, .ref mna, .ref mpi, .ref mca, .ref mwa, .int 0, .ref mrd])), (ms, .inl (kms, 3047, .inl f))]) X Z6 0 rfl rfl (fun w h => List.mem_cons_of_mem _ (List.mem_append_right _ h)) tyX7 tyX7_ok nmX7 20 rfl (zz_m 3 rfl) rfl rfl rfl rfl dX7_parse_12 rfl (fun H7 locs8 Z9 => ?_)
  clear Z6
  refine lv_aload_n hx hb dX7_parse_15 rfl (lv_at hl 0 rfl) ?_
  refine lv_iconst (v := 0) hx hb dX7_parse_16 (by decide) ?_
  refine zz_put (WS' := [(mo, .inr (7, [.ref ms, .ref mi, .ref ma, .int 0, .ref mts, .ref mtz, .ref mtn, .ref mh, .ref mhn, .ref mhw, .ref mhz, .ref mhr, .ref mcl, .ref mtp, .int 0, .int 0, .int 0, .int 3, .int 0, .int 0, .int 0, .int 0, .int 0, .int 0, .int 0, .ref mna, .ref mpi, .ref mca, .ref mwa, .int 0, .ref mrd])), (ms, .inl (kms, 3047, .inl f))]) X Z9 0 rfl rfl (fun w h => List.mem_cons_of_mem _ (List.mem_append_right _ h)) tyX7 tyX7_ok nmX7 21 rfl (zz_m 4 rfl) rfl rfl rfl rfl dX7_parse_17 rfl (fun H10 locs11 Z12 => ?_)
  clear Z9
  refine lv_aload_n hx hb dX7_parse_20 rfl (lv_at hl 0 rfl) ?_
  refine lv_iconst (v := 0) hx hb dX7_parse_21 (by decide) ?_
  refine zz_put (WS' := [(mo, .inr (7, [.ref ms, .ref mi, .ref ma, .int 0, .ref mts, .ref mtz, .ref mtn, .ref mh, .ref mhn, .ref mhw, .ref mhz, .ref mhr, .ref mcl, .ref mtp, .int 0, .int 0, .int 0, .int 3, .int 0, .int 0, .int 0, .int 0, .int 0, .int 0, .int 0, .ref mna, .ref mpi, .ref mca, .ref mwa, .int 0, .ref mrd])), (ms, .inl (kms, 3047, .inl f))]) X Z12 0 rfl rfl (fun w h => List.mem_cons_of_mem _ (List.mem_append_right _ h)) tyX7 tyX7_ok nmX7 22 rfl (zz_m 5 rfl) rfl rfl rfl rfl dX7_parse_22 rfl (fun H13 locs14 Z15 => ?_)
  clear Z12
  refine lv_aload_n hx hb dX7_parse_25 rfl (lv_at hl 0 rfl) ?_
  refine lv_iconst (v := 0) hx hb dX7_parse_26 (by decide) ?_
  refine zz_put (WS' := [(mo, .inr (7, [.ref ms, .ref mi, .ref ma, .int 0, .ref mts, .ref mtz, .ref mtn, .ref mh, .ref mhn, .ref mhw, .ref mhz, .ref mhr, .ref mcl, .ref mtp, .int 0, .int 0, .int 0, .int 3, .int 0, .int 0, .int 0, .int 0, .int 0, .int 0, .int 0, .ref mna, .ref mpi, .ref mca, .ref mwa, .int 0, .ref mrd])), (ms, .inl (kms, 3047, .inl f))]) X Z15 0 rfl rfl (fun w h => List.mem_cons_of_mem _ (List.mem_append_right _ h)) tyX7 tyX7_ok nmX7 24 rfl (zz_m 6 rfl) rfl rfl rfl rfl dX7_parse_27 rfl (fun H16 locs17 Z18 => ?_)
  clear Z15
  refine lv_aload_n hx hb dX7_parse_30 rfl (lv_at hl 0 rfl) ?_
  refine lv_aload_n hx hb dX7_parse_31 rfl (lv_at hl 0 rfl) ?_
  refine zz_get X Z18 0 rfl rfl (fun w h => List.mem_cons_of_mem _ (List.mem_append_right _ h)) 0 rfl (zz_m 7 rfl) rfl dX7_parse_32 ?_
  refine lv_iconst (v := 1) hx hb dX7_parse_35 (by decide) ?_
  refine zz_ild X Z18 1 0 rfl rfl (zz_in 1 3047 rfl) dX7_parse_36 ?_
  refine zz_v (v := 0) af_1 ?_
  refine lv_bipush (v := 14) hx hb dX7_parse_37 (by decide) ?_
  refine lv_icmp_ge (tgt := 57) hx hb dX7_parse_39 (by decide) (fun h => absurd h (by decide)) (fun _ => ?_)
  refine lv_aload_n hx hb dX7_parse_42 rfl (lv_at hl 0 rfl) ?_
  refine lv_aload_n hx hb dX7_parse_43 rfl (lv_at hl 0 rfl) ?_
  refine zz_get X Z18 0 rfl rfl (fun w h => List.mem_cons_of_mem _ (List.mem_append_right _ h)) 0 rfl (zz_m 7 rfl) rfl dX7_parse_44 ?_
  refine lv_iconst (v := 1) hx hb dX7_parse_47 (by decide) ?_
  refine zz_ild X Z18 1 0 rfl rfl (zz_in 1 3047 rfl) dX7_parse_48 ?_
  refine zz_v (v := 0) af_1 ?_
  refine zz_ci (WC := [(mo, .inr (7, [.ref ms, .ref mi, .ref ma, .int 0, .ref mts, .ref mtz, .ref mtn, .ref mh, .ref mhn, .ref mhw, .ref mhz, .ref mhr, .ref mcl, .ref mtp, .int 0, .int 0, .int 0, .int 3, .int 0, .int 0, .int 0, .int 0, .int 0, .int 0, .int 0, .ref mna, .ref mpi, .ref mca, .ref mwa, .int 0, .ref mrd]))]) (TC := []) (WR := [(ms, .inl (kms, 3047, .inl f))]) (TR := [(kms, .int)]) (k := 0) (n := 0) Z18 [0] [1] [] [0] rfl rfl (by decide +kernel) (by decide +kernel) (by decide +kernel) rfl rfl (fun Zc => va_runV (As := [.int 0]) (rest := [.ref mo]) X (c7_textAt l D mo ms mi ma mts mtz mtn mh mhn mhw mhz mhr mcl mtp mna mpi mca mwa mrd 0 0 0 0 3 0 0 0 0 0 0 0 0 H16.size) (cwV 1 hts gX7_parse_X7_textAt rfl rfl rfl ⟨rfl, zh_X7_textAt⟩ ⟨Nat.le_of_ble_eq_true rfl, Nat.le_of_ble_eq_true rfl⟩) (zz_pV (ci := 7) Zc 0 rfl rfl) rfl rfl hl.1 rfl (lv_room (Nat.le_of_ble_eq_true rfl)) dX7_parse_49 ⟨Nat.le_of_ble_eq_true rfl, Nat.le_of_ble_eq_true rfl⟩) rfl rfl (fun r3 u1 H19 locs20 hw2 Z21 => ?_)
  clear Z18
  have hw2 : r3 = 47 := hw2.trans (by decide)
  subst r3
  have Z22 : zz_S D A s [(ms, .inl (kms, 3047, .inl f)), (mo, .inr (7, [.ref ms, .ref mi, .ref ma, .int 0, .ref mts, .ref mtz, .ref mtn, .ref mh, .ref mhn, .ref mhw, .ref mhz, .ref mhr, .ref mcl, .ref mtp, .int 0, .int 0, .int 0, .int 3, .int 0, .int 0, .int 0, .int 0, .int 0, .int 0, .int 0, .ref mna, .ref mpi, .ref mca, .ref mwa, .int 0, .ref mrd]))] [(kms, .int)] H19 locs20 := Z21
  clear Z21
  refine lv_iconst (v := 4) hx hb dX7_parse_52 (by decide) ?_
  refine lv_iadd hx hb dX7_parse_53 ?_
  refine zz_v (v := 51) (by decide) ?_
  refine lv_goto (tgt := 60) hx hb dX7_parse_54 (by decide) ?_
  refine zz_put (WS' := [(ms, .inl (kms, 3047, .inl f)), (mo, .inr (7, [.ref ms, .ref mi, .ref ma, .int 0, .ref mts, .ref mtz, .ref mtn, .ref mh, .ref mhn, .ref mhw, .ref mhz, .ref mhr, .ref mcl, .ref mtp, .int 0, .int 0, .int 0, .int 3, .int 0, .int 0, .int 0, .int 0, .int 0, .int 51, .int 0, .ref mna, .ref mpi, .ref mca, .ref mwa, .int 0, .ref mrd]))]) X Z22 1 rfl rfl (fun w h => List.mem_cons_of_mem _ (List.mem_append_right _ h)) tyX7 tyX7_ok nmX7 23 rfl (zz_m 8 rfl) rfl rfl rfl rfl dX7_parse_60 rfl (fun H23 locs24 Z25 => ?_)
  clear Z22
  refine lv_aload_n hx hb dX7_parse_63 rfl (lv_at hl 0 rfl) ?_
  refine zz_cv (WC := [(mo, .inr (7, [.ref ms, .ref mi, .ref ma, .int 0, .ref mts, .ref mtz, .ref mtn, .ref mh, .ref mhn, .ref mhw, .ref mhz, .ref mhr, .ref mcl, .ref mtp, .int 0, .int 0, .int 0, .int 3, .int 0, .int 0, .int 0, .int 0, .int 0, .int 51, .int 0, .ref mna, .ref mpi, .ref mca, .ref mwa, .int 0, .ref mrd]))]) (TC := []) (WR := [(ms, .inl (kms, 3047, .inl f))]) (TR := [(kms, .int)]) (k := 0) (n := 0) Z25 [1] [0] [] [0] rfl rfl (by decide +kernel) (by decide +kernel) (by decide +kernel) rfl rfl (fun Zc => va_runV (As := []) (rest := []) X (c7_nextToken l D mo ms mi ma mts mtz mtn mh mhn mhw mhz mhr mcl mtp mna mpi mca mwa mrd 51 H23.size) (cwV 0 hts gX7_parse_X7_nextToken rfl rfl rfl ⟨rfl, zh_X7_nextToken⟩ ⟨Nat.le_of_ble_eq_true rfl, Nat.le_of_ble_eq_true rfl⟩) (zz_pV (ci := 7) Zc 0 rfl rfl) rfl rfl hl.1 rfl (lv_room (Nat.le_of_ble_eq_true rfl)) dX7_parse_64 ⟨Nat.le_of_ble_eq_true rfl, Nat.le_of_ble_eq_true rfl⟩) rfl rfl (fun u4 H26 locs27 hw5 Z28 => ?_)
  clear Z25
  have Z29 : zz_S D A s [(ms, .inl (kms, 3047, .inl f)), (mo, .inr (7, [.ref ms, .ref mi, .ref ma, .int 0, .ref mts, .ref mtz, .ref mtn, .ref mh, .ref mhn, .ref mhw, .ref mhz, .ref mhr, .ref mcl, .ref mtp, .int 0, .int 0, .int 0, .int 0, .int 0, .int 0, .int 0, .int 0, .int 0, .int 51, .int 0, .ref mna, .ref mpi, .ref mca, .ref mwa, .int 0, .ref mrd]))] [(kms, .int)] H26 locs27 := Z28
  clear Z28
  refine lv_aload_n hx hb dX7_parse_67 rfl (lv_at hl 0 rfl) ?_
  refine zz_ci (WC := [(mo, .inr (7, [.ref ms, .ref mi, .ref ma, .int 0, .ref mts, .ref mtz, .ref mtn, .ref mh, .ref mhn, .ref mhw, .ref mhz, .ref mhr, .ref mcl, .ref mtp, .int 0, .int 0, .int 0, .int 0, .int 0, .int 0, .int 0, .int 0, .int 0, .int 51, .int 0, .ref mna, .ref mpi, .ref mca, .ref mwa, .int 0, .ref mrd]))]) (TC := []) (WR := [(ms, .inl (kms, 3047, .inl f))]) (TR := [(kms, .int)]) (k := 0) (n := 0) Z29 [1] [0] [] [0] rfl rfl (by decide +kernel) (by decide +kernel) (by decide +kernel) rfl rfl (fun Zc => va_runV (As := []) (rest := []) X (c7_key l D mo ms mi ma mts mtz mtn mh mhn mhw mhz mhr mcl mtp mna mpi mca mwa mrd 51 H26.size) (cwV 0 hts gX7_parse_X7_key rfl rfl rfl ⟨rfl, zh_X7_key⟩ ⟨Nat.le_of_ble_eq_true rfl, Nat.le_of_ble_eq_true rfl⟩) (zz_pV (ci := 7) Zc 0 rfl rfl) rfl rfl hl.1 rfl (lv_room (Nat.le_of_ble_eq_true rfl)) dX7_parse_68 ⟨Nat.le_of_ble_eq_true rfl, Nat.le_of_ble_eq_true rfl⟩) rfl rfl (fun r9 u7 H30 locs31 hw8 Z32 => ?_)
  clear Z29
  have hw8 : r9 = (-1) := hw8.trans (by decide)
  subst r9
  have Z33 : zz_S D A s [(ms, .inl (kms, 3047, .inl f)), (mo, .inr (7, [.ref ms, .ref mi, .ref ma, .int 0, .ref mts, .ref mtz, .ref mtn, .ref mh, .ref mhn, .ref mhw, .ref mhz, .ref mhr, .ref mcl, .ref mtp, .int 0, .int 0, .int 0, .int 0, .int 0, .int 0, .int 0, .int 0, .int 0, .int 51, .int 0, .ref mna, .ref mpi, .ref mca, .ref mwa, .int 0, .ref mrd]))] [(kms, .int)] H30 locs31 := Z32
  clear Z32
  refine lv_istore_n (lv' := [(1, .int (-1)), (0, .ref mo)]) hx hb dX7_parse_71 rfl hl (by decide) rfl (fun ls34 hl35 => ?_)
  clear hl
  refine lv_iload_n hx hb dX7_parse_72 rfl (lv_at hl35 0 rfl) ?_
  refine lv_if_lt (tgt := 80) hx hb dX7_parse_73 (by decide) (fun _ => ?_) (fun h => absurd (by decide) h)
  refine lv_iconst (v := 0) hx hb dX7_parse_80 (by decide) ?_
  refine lv_istore_n (lv' := [(2, .int 0), (1, .int (-1)), (0, .ref mo)]) hx hb dX7_parse_81 rfl hl35 (by decide) rfl (fun ls36 hl37 => ?_)
  clear hl35
  refine lv_iload_n hx hb dX7_parse_82 rfl (lv_at hl37 0 rfl) ?_
  refine lv_if_eq (tgt := 111) hx hb dX7_parse_83 (by decide) (fun _ => ?_) (fun h => absurd (by decide) h)
  refine lv_aload_n hx hb dX7_parse_111 rfl (lv_at hl37 2 rfl) ?_
  refine lv_iconst (v := 0) hx hb dX7_parse_112 (by decide) ?_
  refine zz_put (WS' := [(ms, .inl (kms, 3047, .inl f)), (mo, .inr (7, [.ref ms, .ref mi, .ref ma, .int 0, .ref mts, .ref mtz, .ref mtn, .ref mh, .ref mhn, .ref mhw, .ref mhz, .ref mhr, .ref mcl, .ref mtp, .int 0, .int 0, .int 0, .int 0, .int 0, .int 0, .int 0, .int 0, .int 0, .int 51, .int 0, .ref mna, .ref mpi, .ref mca, .ref mwa, .int 0, .ref mrd]))]) X Z33 1 rfl rfl (fun w h => List.mem_cons_of_mem _ (List.mem_append_right _ h)) tyX7 tyX7_ok nmX7 14 rfl (zz_m 9 rfl) rfl rfl rfl rfl dX7_parse_113 rfl (fun H38 locs39 Z40 => ?_)
  clear Z33
  refine lv_iload_n hx hb dX7_parse_116 rfl (lv_at hl37 0 rfl) ?_
  refine lv_if_eq (tgt := 124) hx hb dX7_parse_117 (by decide) (fun _ => ?_) (fun h => absurd (by decide) h)
  refine lv_iconst (v := (-1)) hx hb dX7_parse_124 (by decide) ?_
  exact zz_iret X hr hlk Z40 () rfl [1, 0] [0] (by decide +kernel) rfl rfl dX7_parse_125

set_option maxHeartbeats 4000000 in
set_option maxRecDepth 100000 in
theorem c7_text (l : Launch) (D : va_G) (mo : Nat) (ms : Nat) (mi : Nat) (ma : Nat) (mts : Nat) (mtz : Nat) (mtn : Nat) (mh : Nat) (mhn : Nat) (mhw : Nat) (mhz : Nat) (mhr : Nat) (mcl : Nat) (mtp : Nat) (mna : Nat) (mpi : Nat) (mca : Nat) (mwa : Nat) (mrd : Nat) (kms : ClassId) (f : (Nat → Int32)) (af_0 : f 0 = 0) (af_1 : f 1 = 0) (af_2 : f 2 = 0) (af_3 : f 3 = 0) (af_4 : f 4 = 0) (af_5 : f 5 = 0) (af_6 : f 6 = 1) (af_7 : f 7 = 0) (af_8 : f 8 = 3) (af_9 : f 9 = 10) (af_10 : f 10 = 0) : zz_MI l yX7_text wsX7_text 3 67 0 0 D [.ref mo] [(mo, .inr (7, [.ref ms, .ref mi, .ref ma, .int 0, .ref mts, .ref mtz, .ref mtn, .ref mh, .ref mhn, .ref mhw, .ref mhz, .ref mhr, .ref mcl, .ref mtp, .int 0, .int 0, .int 0, .int 0, .int 0, .int 0, .int 0, .int 0, .int 0, .int 0, .int 0, .ref mna, .ref mpi, .ref mca, .ref mwa, .int 0, .ref mrd])), (ms, .inl (kms, 3047, .inl f))] [(kms, .int)] (fun (r : Int32) (u : Unit) => r = (-100)) (fun (u : Unit) => []) (fun (u : Unit) => []) := by
  intro sz
  refine Met.ofW (cc := cX7_text) (maxL := 3) (ret := (some .int)) (by decide) rfl ?_
  intro p e s m args below meth c s₁ B hml hv
  obtain ⟨rfl, hC⟩ := hv
  have hx := B.exec
  have hb := B.bytes
  have hr := B.returns
  have hts := atoms_spec (ws := wsX7_text) B.pre
  have hown : s.vm.findClass RX7 = some m.cls := findClass_of_methodNamed B.named
  have hlk := B.notSynchronized
  have X : CallFix p m c cX7_text 3 s _ wsX7_text RX7 := ⟨hx, hb, hml, hown, hts⟩
  have Z := zz_enter hC
  generalize va_A [(mo, .inr (7, [.ref ms, .ref mi, .ref ma, .int 0, .ref mts, .ref mtz, .ref mtn, .ref mh, .ref mhn, .ref mhw, .ref mhz, .ref mhr, .ref mcl, .ref mtp, .int 0, .int 0, .int 0, .int 0, .int 0, .int 0, .int 0, .int 0, .int 0, .int 0, .int 0, .ref mna, .ref mpi, .ref mca, .ref mwa, .int 0, .ref mrd])), (ms, .inl (kms, 3047, .inl f))] sz = A at Z ⊢
  have hl := lv_entry ([.ref mo]) (n := 3) (Nat.le_of_ble_eq_true rfl)
  rw [lg_entry_eq]
  generalize (lg_sl ([.ref mo]) ++ List.replicate (3 - (lg_sl ([.ref mo])).length) Slot.unset).toArray = ls at hl ⊢
  have hl : lv_has ls 3 [(0, .ref mo)] := hl
  refine lv_aload_n hx hb dX7_text_0 rfl (lv_at hl 0 rfl) ?_
  refine zz_ci (WC := [(mo, .inr (7, [.ref ms, .ref mi, .ref ma, .int 0, .ref mts, .ref mtz, .ref mtn, .ref mh, .ref mhn, .ref mhw, .ref mhz, .ref mhr, .ref mcl, .ref mtp, .int 0, .int 0, .int 0, .int 0, .int 0, .int 0, .int 0, .int 0, .int 0, .int 0, .int 0, .ref mna, .ref mpi, .ref mca, .ref mwa, .int 0, .ref mrd])), (ms, .inl (kms, 3047, .inl f))]) (TC := [(kms, .int)]) (WR := []) (TR := []) (k := 0) (n := 0) Z [0, 1] [] [0] [] rfl rfl (by decide +kernel) (by decide +kernel) (by decide +kernel) rfl rfl (fun Zc => va_runV (As := []) (rest := []) X (c7_parse l D mo ms mi ma mts mtz mtn mh mhn mhw mhz mhr mcl mtp mna mpi mca mwa mrd kms f af_0 af_1 af_2 af_3 af_4 af_5 af_6 af_7 af_8 af_9 af_10 s.heap.size) (cwV 0 hts gX7_text_X7_parse rfl rfl rfl ⟨rfl, zh_X7_parse⟩ ⟨Nat.le_of_ble_eq_true rfl, Nat.le_of_ble_eq_true rfl⟩) (zz_pV (ci := 7) Zc 0 rfl rfl) rfl rfl hl.1 rfl (lv_room (Nat.le_of_ble_eq_true rfl)) dX7_text_1 ⟨Nat.le_of_ble_eq_true rfl, Nat.le_of_ble_eq_true rfl⟩) rfl rfl (fun r3 u1 H1 locs2 hw2 Z3 => ?_)
  clear Z
  have hw2 : r3 = (-1) := hw2.trans (by decide)
  subst r3
  have Z4 : zz_S D A s [(mo, .inr (7, [.ref ms, .ref mi, .ref ma, .int 0, .ref mts, .ref mtz, .ref mtn, .ref mh, .ref mhn, .ref mhw, .ref mhz, .ref mhr, .ref mcl, .ref mtp, .int 0, .int 0, .int 0, .int 0, .int 0, .int 0, .int 0, .int 0, .int 0, .int 51, .int 0, .ref mna, .ref mpi, .ref mca, .ref mwa, .int 0, .ref mrd])), (ms, .inl (kms, 3047, .inl f))] [(kms, .int)] H1 locs2 := Z3
  clear Z3
  refine lv_istore_n (lv' := [(1, .int (-1)), (0, .ref mo)]) hx hb dX7_text_4 rfl hl (by decide) rfl (fun ls5 hl6 => ?_)
  clear hl
  refine lv_iload_n hx hb dX7_text_5 rfl (lv_at hl6 0 rfl) ?_
  refine lv_if_ge (tgt := 17) hx hb dX7_text_6 (by decide) (fun h => absurd h (by decide)) (fun _ => ?_)
  refine lv_bipush (v := (-100)) hx hb dX7_text_9 (by decide) ?_
  refine lv_aload_n hx hb dX7_text_11 rfl (lv_at hl6 1 rfl) ?_
  refine zz_get X Z4 0 rfl rfl (fun w h => List.mem_cons_of_mem _ (List.mem_append_right _ h)) 15 rfl (zz_m 1 rfl) rfl dX7_text_12 ?_
  refine lv_isub hx hb dX7_text_15 ?_
  refine zz_v (v := (-100)) (by decide) ?_
  exact zz_iret X hr hlk Z4 () rfl [] [] (by decide +kernel) rfl rfl dX7_text_16
