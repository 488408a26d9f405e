set_option maxHeartbeats 4000000 in
set_option maxRecDepth 100000 in
theorem c7_shadeFrom (l : Launch) (D : va_G) (mo : Nat) (ms : Nat) (mi : Nat) (ma : Nat) (mts : Nat) (mtz : Nat) (mtn : Nat) (mh : Nat) (mhn : Nat) (mhw : Nat) (mhz : Nat) (mhr : Nat) (mcl : Nat) (mtp : Nat) (mna : Nat) (mpi : Nat) (mca : Nat) (mwa : Nat) (mrd : Nat) (j3 : Int32) (j14 : Int32) (j15 : Int32) (j16 : Int32) (j17 : Int32) (j18 : Int32) (j19 : Int32) (j20 : Int32) (j21 : Int32) (j22 : Int32) (j23 : Int32) (j24 : Int32) (j29 : Int32) (kms : ClassId) (f : (Nat → Int32)) (af_0 : f 0 = 0) (af_1 : f 1 = 0) (af_2 : f 2 = 0) (af_3 : f 3 = 0) (af_4 : f 4 = 0) (af_5 : f 5 = 0) (af_6 : f 6 = 1) (af_7 : f 7 = 0) (af_8 : f 8 = 3) (af_9 : f 9 = 10) (af_10 : f 10 = 0) : zz_MI l yX7_shadeFrom wsX7_shadeFrom 0 0 0 0 D [.ref mo] [(mo, .inr (7, [.ref ms, .ref mi, .ref ma, .int j3, .ref mts, .ref mtz, .ref mtn, .ref mh, .ref mhn, .ref mhw, .ref mhz, .ref mhr, .ref mcl, .ref mtp, .int j14, .int j15, .int j16, .int j17, .int j18, .int j19, .int j20, .int j21, .int j22, .int j23, .int j24, .ref mna, .ref mpi, .ref mca, .ref mwa, .int j29, .ref mrd])), (ms, .inl (kms, 3047, .inl f))] [(kms, .int)] (fun (r : Int32) (u : Unit) => r = (-2)) (fun (u : Unit) => [(mo, .inr (7, [.ref ms, .ref mi, .ref ma, .int j3, .ref mts, .ref mtz, .ref mtn, .ref mh, .ref mhn, .ref mhw, .ref mhz, .ref mhr, .ref mcl, .ref mtp, .int j14, .int j15, .int j16, .int j17, .int j18, .int j19, .int j20, .int j21, .int j22, .int j23, .int j24, .ref mna, .ref mpi, .ref mca, .ref mwa, .int j29, .ref mrd])), (ms, .inl (kms, 3047, .inl f))]) (fun (u : Unit) => [(kms, .int)]) := by
  intro sz
  refine Met.ofW (cc := cX7_shadeFrom) (maxL := 1) (ret := (some .int)) (by decide) rfl ?_
  intro p e s m args below meth c s₁ B hml hv
  obtain ⟨rfl, hC⟩ := hv
  have hx := B.exec
  have hb := B.bytes
  have hr := B.returns
  have hts := atoms_spec (ws := wsX7_shadeFrom) B.pre
  have hown : s.vm.findClass RX7 = some m.cls := findClass_of_methodNamed B.named
  have hlk := B.notSynchronized
  have X : CallFix p m c cX7_shadeFrom 1 s _ wsX7_shadeFrom RX7 := ⟨hx, hb, hml, hown, hts⟩
  have Z := zz_enter hC
  generalize va_A [(mo, .inr (7, [.ref ms, .ref mi, .ref ma, .int j3, .ref mts, .ref mtz, .ref mtn, .ref mh, .ref mhn, .ref mhw, .ref mhz, .ref mhr, .ref mcl, .ref mtp, .int j14, .int j15, .int j16, .int j17, .int j18, .int j19, .int j20, .int j21, .int j22, .int j23, .int j24, .ref mna, .ref mpi, .ref mca, .ref mwa, .int j29, .ref mrd])), (ms, .inl (kms, 3047, .inl f))] sz = A at Z ⊢
  have hl := lv_entry ([.ref mo]) (n := 1) (Nat.le_of_ble_eq_true rfl)
  rw [lg_entry_eq]
  generalize (lg_sl ([.ref mo]) ++ List.replicate (1 - (lg_sl ([.ref mo])).length) Slot.unset).toArray = ls at hl ⊢
  have hl : lv_has ls 1 [(0, .ref mo)] := hl
  refine lv_aload_n hx hb dX7_shadeFrom_0 rfl (lv_at hl 0 rfl) ?_
  refine zz_get X Z 0 rfl rfl (fun w h => List.mem_cons_of_mem _ (List.mem_append_right _ h)) 0 rfl (zz_m 1 rfl) rfl dX7_shadeFrom_1 ?_
  refine lv_bipush (v := 7) hx hb dX7_shadeFrom_4 (by decide) ?_
  refine zz_ild X Z 1 0 rfl rfl (zz_in 7 3047 rfl) dX7_shadeFrom_6 ?_
  refine zz_v (v := 0) af_7 ?_
  refine lv_aload_n hx hb dX7_shadeFrom_7 rfl (lv_at hl 0 rfl) ?_
  refine zz_get X Z 0 rfl rfl (fun w h => List.mem_cons_of_mem _ (List.mem_append_right _ h)) 0 rfl (zz_m 1 rfl) rfl dX7_shadeFrom_8 ?_
  refine lv_iconst (v := 2) hx hb dX7_shadeFrom_11 (by decide) ?_
  refine zz_ild X Z 1 0 rfl rfl (zz_in 2 3047 rfl) dX7_shadeFrom_12 ?_
  refine zz_v (v := 0) af_2 ?_
  refine lv_bipush (v := 10) hx hb dX7_shadeFrom_13 (by decide) ?_
  refine lv_irem hx hb dX7_shadeFrom_15 (by decide) ?_
  refine zz_v (v := 0) (by decide) ?_
  refine lv_iconst (v := 5) hx hb dX7_shadeFrom_16 (by decide) ?_
  refine lv_isub hx hb dX7_shadeFrom_17 ?_
  refine zz_v (v := (-5)) (by decide) ?_
  refine lv_iconst (v := 2) hx hb dX7_shadeFrom_18 (by decide) ?_
  refine lv_idiv hx hb dX7_shadeFrom_19 (by decide) ?_
  refine zz_v (v := (-2)) (by decide) ?_
  refine lv_iadd hx hb dX7_shadeFrom_20 ?_
  refine zz_v (v := (-2)) (by decide) ?_
  exact zz_iret X hr hlk Z () rfl [0, 1] [0] (by decide +kernel) rfl rfl dX7_shadeFrom_21

set_option maxHeartbeats 4000000 in
set_option maxRecDepth 100000 in
theorem c7_off (l : Launch) (D : va_G) (a_ : Int32) (b_ : Int32)  : zz_MI l yX7_off wsX7_off 0 0 0 0 D [.int a_, .int b_] [] [] (fun (r : Int32) (u : Unit) => r = if a_ < b_ then b_ - a_ else a_ - b_) (fun (u : Unit) => []) (fun (u : Unit) => []) := by
  intro sz
  refine Met.ofW (cc := cX7_off) (maxL := 2) (ret := (some .int)) (by decide) rfl ?_
  intro p e s m args below meth c s₁ B hml hv
  obtain ⟨rfl, hC⟩ := hv
  have hx := B.exec
  have hb := B.bytes
  have hr := B.returns
  have hts := atoms_spec (ws := wsX7_off) B.pre
  have hown : s.vm.findClass RX7 = some m.cls := findClass_of_methodNamed B.named
  have hlk := B.notSynchronized
  have X : CallFix p m c cX7_off 2 s _ wsX7_off RX7 := ⟨hx, hb, hml, hown, hts⟩
  have Z := zz_enter hC
  generalize va_A [] sz = A at Z ⊢
  have hl := lv_entry ([.int a_, .int b_]) (n := 2) (Nat.le_of_ble_eq_true rfl)
  rw [lg_entry_eq]
  generalize (lg_sl ([.int a_, .int b_]) ++ List.replicate (2 - (lg_sl ([.int a_, .int b_])).length) Slot.unset).toArray = ls at hl ⊢
  have hl : lv_has ls 2 [(0, .int a_), (1, .int b_)] := hl
  refine lv_iload_n hx hb dX7_off_0 rfl (lv_at hl 0 rfl) ?_
  refine lv_iload_n hx hb dX7_off_1 rfl (lv_at hl 1 rfl) ?_
  refine lv_icmp_ge (tgt := 11) hx hb dX7_off_2 (by decide) (fun b1 => ?_) (fun b1 => ?_)
  · refine lv_iload_n hx hb dX7_off_11 rfl (lv_at hl 0 rfl) ?_
    refine lv_iload_n hx hb dX7_off_12 rfl (lv_at hl 1 rfl) ?_
    refine lv_isub hx hb dX7_off_13 ?_
    exact zz_iret X hr hlk Z () (if_neg (Int32.not_lt.mpr b1)).symm [] [] (by decide +kernel) rfl rfl dX7_off_14
  · refine lv_iload_n hx hb dX7_off_5 rfl (lv_at hl 1 rfl) ?_
    refine lv_iload_n hx hb dX7_off_6 rfl (lv_at hl 0 rfl) ?_
    refine lv_isub hx hb dX7_off_7 ?_
    refine lv_goto (tgt := 14) hx hb dX7_off_8 (by decide) ?_
    exact zz_iret X hr hlk Z () (if_pos (Int32.not_le.mp b1)).symm [] [] (by decide +kernel) rfl rfl dX7_off_14

set_option maxHeartbeats 4000000 in
set_option maxRecDepth 100000 in
theorem c7_heat (l : Launch) (D : va_G) (mo : Nat) (ms : Nat) (mi : Nat) (ma : Nat) (mts : Nat) (mtz : Nat) (mtn : Nat) (mh : Nat) (mhn : Nat) (mhw : Nat) (mhz : Nat) (mhr : Nat) (mcl : Nat) (mtp : Nat) (mna : Nat) (mpi : Nat) (mca : Nat) (mwa : Nat) (mrd : Nat) (j3 : Int32) (j14 : Int32) (j15 : Int32) (j16 : Int32) (j17 : Int32) (j18 : Int32) (j19 : Int32) (j20 : Int32) (j21 : Int32) (j22 : Int32) (j23 : Int32) (j24 : Int32) (j29 : Int32) (kms : ClassId) (f : (Nat → Int32)) (af_0 : f 0 = 0) (af_1 : f 1 = 0) (af_2 : f 2 = 0) (af_3 : f 3 = 0) (af_4 : f 4 = 0) (af_5 : f 5 = 0) (af_6 : f 6 = 1) (af_7 : f 7 = 0) (af_8 : f 8 = 3) (af_9 : f 9 = 10) (af_10 : f 10 = 0) : zz_MI l yX7_heat wsX7_heat 1 21 0 0 D [.ref mo] [(mo, .inr (7, [.ref ms, .ref mi, .ref ma, .int j3, .ref mts, .ref mtz, .ref mtn, .ref mh, .ref mhn, .ref mhw, .ref mhz, .ref mhr, .ref mcl, .ref mtp, .int j14, .int j15, .int j16, .int j17, .int j18, .int j19, .int j20, .int j21, .int j22, .int j23, .int j24, .ref mna, .ref mpi, .ref mca, .ref mwa, .int j29, .ref mrd])), (ms, .inl (kms, 3047, .inl f))] [(kms, .int)] (fun (r : Int32) (u : Unit) => r = 20) (fun (u : Unit) => [(mo, .inr (7, [.ref ms, .ref mi, .ref ma, .int j3, .ref mts, .ref mtz, .ref mtn, .ref mh, .ref mhn, .ref mhw, .ref mhz, .ref mhr, .ref mcl, .ref mtp, .int j14, .int j15, .int j16, .int j17, .int j18, .int j19, .int j20, .int j21, .int j22, .int j23, .int j24, .ref mna, .ref mpi, .ref mca, .ref mwa, .int j29, .ref mrd])), (ms, .inl (kms, 3047, .inl f))]) (fun (u : Unit) => [(kms, .int)]) := by
  intro sz
  refine Met.ofW (cc := cX7_heat) (maxL := 1) (ret := (some .int)) (by decide) rfl ?_
  intro p e s m args below meth c s₁ B hml hv
  obtain ⟨rfl, hC⟩ := hv
  have hx := B.exec
  have hb := B.bytes
  have hr := B.returns
  have hts := atoms_spec (ws := wsX7_heat) B.pre
  have hown : s.vm.findClass RX7 = some m.cls := findClass_of_methodNamed B.named
  have hlk := B.notSynchronized
  have X : CallFix p m c cX7_heat 1 s _ wsX7_heat RX7 := ⟨hx, hb, hml, hown, hts⟩
  have Z := zz_enter hC
  generalize va_A [(mo, .inr (7, [.ref ms, .ref mi, .ref ma, .int j3, .ref mts, .ref mtz, .ref mtn, .ref mh, .ref mhn, .ref mhw, .ref mhz, .ref mhr, .ref mcl, .ref mtp, .int j14, .int j15, .int j16, .int j17, .int j18, .int j19, .int j20, .int j21, .int j22, .int j23, .int j24, .ref mna, .ref mpi, .ref mca, .ref mwa, .int j29, .ref mrd])), (ms, .inl (kms, 3047, .inl f))] sz = A at Z ⊢
  have hl := lv_entry ([.ref mo]) (n := 1) (Nat.le_of_ble_eq_true rfl)
  rw [lg_entry_eq]
  generalize (lg_sl ([.ref mo]) ++ List.replicate (1 - (lg_sl ([.ref mo])).length) Slot.unset).toArray = ls at hl ⊢
  have hl : lv_has ls 1 [(0, .ref mo)] := hl
  refine lv_bipush (v := 45) hx hb dX7_heat_0 (by decide) ?_
  refine lv_iconst (v := 5) hx hb dX7_heat_2 (by decide) ?_
  refine lv_aload_n hx hb dX7_heat_3 rfl (lv_at hl 0 rfl) ?_
  refine zz_get X Z 0 rfl rfl (fun w h => List.mem_cons_of_mem _ (List.mem_append_right _ h)) 0 rfl (zz_m 1 rfl) rfl dX7_heat_4 ?_
  refine lv_iconst (v := 2) hx hb dX7_heat_7 (by decide) ?_
  refine zz_ild X Z 1 0 rfl rfl (zz_in 2 3047 rfl) dX7_heat_8 ?_
  refine zz_v (v := 0) af_2 ?_
  refine lv_bipush (v := 10) hx hb dX7_heat_9 (by decide) ?_
  refine lv_irem hx hb dX7_heat_11 (by decide) ?_
  refine zz_v (v := 0) (by decide) ?_
  refine lv_iconst (v := 5) hx hb dX7_heat_12 (by decide) ?_
  refine zz_ci (WC := []) (TC := []) (WR := [(mo, .inr (7, [.ref ms, .ref mi, .ref ma, .int j3, .ref mts, .ref mtz, .ref mtn, .ref mh, .ref mhn, .ref mhw, .ref mhz, .ref mhr, .ref mcl, .ref mtp, .int j14, .int j15, .int j16, .int j17, .int j18, .int j19, .int j20, .int j21, .int j22, .int j23, .int j24, .ref mna, .ref mpi, .ref mca, .ref mwa, .int j29, .ref mrd])), (ms, .inl (kms, 3047, .inl f))]) (TR := [(kms, .int)]) (k := 0) (n := 0) Z [] [0, 1] [] [0] rfl rfl (by decide +kernel) (by decide +kernel) (by decide +kernel) rfl rfl (fun Zc => va_runS (As := [.int 0, .int 5]) (rest := [.int 5, .int 45]) X (c7_off l D 0 5 s.heap.size) (va_cwS 2 hts gX7_heat_X7_off rfl rfl rfl zh_X7_off ⟨Nat.le_of_ble_eq_true rfl, Nat.le_of_ble_eq_true rfl⟩) (zz_pS Zc) rfl rfl hl.1 rfl (lv_room (Nat.le_of_ble_eq_true rfl)) dX7_heat_13 ⟨Nat.le_of_ble_eq_true rfl, Nat.le_of_ble_eq_true rfl⟩) rfl rfl (fun r3 u1 H1 locs2 hw2 Z3 => ?_)
  clear Z
  have hw2 : r3 = 5 := hw2.trans (by decide)
  subst r3
  have Z4 : zz_S D A s [(mo, .inr (7, [.ref ms, .ref mi, .ref ma, .int j3, .ref mts, .ref mtz, .ref mtn, .ref mh, .ref mhn, .ref mhw, .ref mhz, .ref mhr, .ref mcl, .ref mtp, .int j14, .int j15, .int j16, .int j17, .int j18, .int j19, .int j20, .int j21, .int j22, .int j23, .int j24, .ref mna, .ref mpi, .ref mca, .ref mwa, .int j29, .ref mrd])), (ms, .inl (kms, 3047, .inl f))] [(kms, .int)] H1 locs2 := Z3
  clear Z3
  refine lv_imul hx hb dX7_heat_16 ?_
  refine zz_v (v := 25) (by decide) ?_
  refine lv_isub hx hb dX7_heat_17 ?_
  refine zz_v (v := 20) (by decide) ?_
  exact zz_iret X hr hlk Z4 () rfl [0, 1] [0] (by decide +kernel) rfl rfl dX7_heat_18

set_option maxHeartbeats 4000000 in
set_option maxRecDepth 100000 in
theorem c7_firstShaded (l : Launch) (D : va_G) (mo : Nat) (ms : Nat) (mi : Nat) (ma : Nat) (mts : Nat) (mtz : Nat) (mtn : Nat) (mh : Nat) (mhn : Nat) (mhw : Nat) (mhz : Nat) (mhr : Nat) (mcl : Nat) (mtp : Nat) (mna : Nat) (mpi : Nat) (mca : Nat) (mwa : Nat) (mrd : Nat) (j3 : Int32) (j14 : Int32) (j15 : Int32) (j16 : Int32) (j17 : Int32) (j18 : Int32) (j19 : Int32) (j20 : Int32) (j21 : Int32) (j22 : Int32) (j23 : Int32) (j24 : Int32) (j29 : Int32) (kms : ClassId) (f : (Nat → Int32)) (af_0 : f 0 = 0) (af_1 : f 1 = 0) (af_2 : f 2 = 0) (af_3 : f 3 = 0) (af_4 : f 4 = 0) (af_5 : f 5 = 0) (af_6 : f 6 = 1) (af_7 : f 7 = 0) (af_8 : f 8 = 3) (af_9 : f 9 = 10) (af_10 : f 10 = 0) : zz_MI l yX7_firstShaded wsX7_firstShaded 1 20 0 0 D [.ref mo] [(mo, .inr (7, [.ref ms, .ref mi, .ref ma, .int j3, .ref mts, .ref mtz, .ref mtn, .ref mh, .ref mhn, .ref mhw, .ref mhz, .ref mhr, .ref mcl, .ref mtp, .int j14, .int j15, .int j16, .int j17, .int j18, .int j19, .int j20, .int j21, .int j22, .int j23, .int j24, .ref mna, .ref mpi, .ref mca, .ref mwa, .int j29, .ref mrd])), (ms, .inl (kms, 3047, .inl f))] [(kms, .int)] (fun (r : Int32) (u : Unit) => r = 0) (fun (u : Unit) => [(mo, .inr (7, [.ref ms, .ref mi, .ref ma, .int j3, .ref mts, .ref mtz, .ref mtn, .ref mh, .ref mhn, .ref mhw, .ref mhz, .ref mhr, .ref mcl, .ref mtp, .int j14, .int j15, .int j16, .int j17, .int j18, .int j19, .int j20, .int j21, .int j22, .int j23, .int j24, .ref mna, .ref mpi, .ref mca, .ref mwa, .int j29, .ref mrd])), (ms, .inl (kms, 3047, .inl f))]) (fun (u : Unit) => [(kms, .int)]) := by
  intro sz
  refine Met.ofW (cc := cX7_firstShaded) (maxL := 2) (ret := (some .int)) (by decide) rfl ?_
  intro p e s m args below meth c s₁ B hml hv
  obtain ⟨rfl, hC⟩ := hv
  have hx := B.exec
  have hb := B.bytes
  have hr := B.returns
  have hts := atoms_spec (ws := wsX7_firstShaded) B.pre
  have hown : s.vm.findClass RX7 = some m.cls := findClass_of_methodNamed B.named
  have hlk := B.notSynchronized
  have X : CallFix p m c cX7_firstShaded 2 s _ wsX7_firstShaded RX7 := ⟨hx, hb, hml, hown, hts⟩
  have Z := zz_enter hC
  generalize va_A [(mo, .inr (7, [.ref ms, .ref mi, .ref ma, .int j3, .ref mts, .ref mtz, .ref mtn, .ref mh, .ref mhn, .ref mhw, .ref mhz, .ref mhr, .ref mcl, .ref mtp, .int j14, .int j15, .int j16, .int j17, .int j18, .int j19, .int j20, .int j21, .int j22, .int j23, .int j24, .ref mna, .ref mpi, .ref mca, .ref mwa, .int j29, .ref mrd])), (ms, .inl (kms, 3047, .inl f))] sz = A at Z ⊢
  have hl := lv_entry ([.ref mo]) (n := 2) (Nat.le_of_ble_eq_true rfl)
  rw [lg_entry_eq]
  generalize (lg_sl ([.ref mo]) ++ List.replicate (2 - (lg_sl ([.ref mo])).length) Slot.unset).toArray = ls at hl ⊢
  have hl : lv_has ls 2 [(0, .ref mo)] := hl
  refine lv_aload_n hx hb dX7_firstShaded_0 rfl (lv_at hl 0 rfl) ?_
  refine zz_ci (WC := [(mo, .inr (7, [.ref ms, .ref mi, .ref ma, .int j3, .ref mts, .ref mtz, .ref mtn, .ref mh, .ref mhn, .ref mhw, .ref mhz, .ref mhr, .ref mcl, .ref mtp, .int j14, .int j15, .int j16, .int j17, .int j18, .int j19, .int j20, .int j21, .int j22, .int j23, .int j24, .ref mna, .ref mpi, .ref mca, .ref mwa, .int j29, .ref mrd])), (ms, .inl (kms, 3047, .inl f))]) (TC := [(kms, .int)]) (WR := []) (TR := []) (k := 0) (n := 0) Z [0, 1] [] [0] [] rfl rfl (by decide +kernel) (by decide +kernel) (by decide +kernel) rfl rfl (fun Zc => va_runV (As := []) (rest := []) X (c7_shadeFrom l D mo ms mi ma mts mtz mtn mh mhn mhw mhz mhr mcl mtp mna mpi mca mwa mrd j3 j14 j15 j16 j17 j18 j19 j20 j21 j22 j23 j24 j29 kms f af_0 af_1 af_2 af_3 af_4 af_5 af_6 af_7 af_8 af_9 af_10 s.heap.size) (cwV 0 hts gX7_firstShaded_X7_shadeFrom rfl rfl rfl ⟨rfl, zh_X7_shadeFrom⟩ ⟨Nat.le_of_ble_eq_true rfl, Nat.le_of_ble_eq_true rfl⟩) (zz_pV (ci := 7) Zc 0 rfl rfl) rfl rfl hl.1 rfl (lv_room (Nat.le_of_ble_eq_true rfl)) dX7_firstShaded_1 ⟨Nat.le_of_ble_eq_true rfl, Nat.le_of_ble_eq_true rfl⟩) rfl rfl (fun r3 u1 H1 locs2 hw2 Z3 => ?_)
  clear Z
  have hw2 : r3 = (-2) := hw2.trans (by decide)
  subst r3
  have Z4 : zz_S D A s [(mo, .inr (7, [.ref ms, .ref mi, .ref ma, .int j3, .ref mts, .ref mtz, .ref mtn, .ref mh, .ref mhn, .ref mhw, .ref mhz, .ref mhr, .ref mcl, .ref mtp, .int j14, .int j15, .int j16, .int j17, .int j18, .int j19, .int j20, .int j21, .int j22, .int j23, .int j24, .ref mna, .ref mpi, .ref mca, .ref mwa, .int j29, .ref mrd])), (ms, .inl (kms, 3047, .inl f))] [(kms, .int)] H1 locs2 := Z3
  clear Z3
  refine lv_if_ge (tgt := 11) hx hb dX7_firstShaded_4 (by decide) (fun h => absurd h (by decide)) (fun _ => ?_)
  refine lv_iconst (v := 0) hx hb dX7_firstShaded_7 (by decide) ?_
  refine lv_goto (tgt := 15) hx hb dX7_firstShaded_8 (by decide) ?_
  refine lv_istore_n (lv' := [(1, .int 0), (0, .ref mo)]) hx hb dX7_firstShaded_15 rfl hl (by decide) rfl (fun ls5 hl6 => ?_)
  clear hl
  refine lv_iload_n hx hb dX7_firstShaded_16 rfl (lv_at hl6 0 rfl) ?_
  refine lv_bipush (v := 12) hx hb dX7_firstShaded_17 (by decide) ?_
  refine lv_icmp_ge (tgt := 42) hx hb dX7_firstShaded_19 (by decide) (fun h => absurd h (by decide)) (fun _ => ?_)
  refine lv_iload_n hx hb dX7_firstShaded_22 rfl (lv_at hl6 0 rfl) ?_
  refine lv_aload_n hx hb dX7_firstShaded_23 rfl (lv_at hl6 1 rfl) ?_
  refine zz_ci (WC := [(mo, .inr (7, [.ref ms, .ref mi, .ref ma, .int j3, .ref mts, .ref mtz, .ref mtn, .ref mh, .ref mhn, .ref mhw, .ref mhz, .ref mhr, .ref mcl, .ref mtp, .int j14, .int j15, .int j16, .int j17, .int j18, .int j19, .int j20, .int j21, .int j22, .int j23, .int j24, .ref mna, .ref mpi, .ref mca, .ref mwa, .int j29, .ref mrd])), (ms, .inl (kms, 3047, .inl f))]) (TC := [(kms, .int)]) (WR := []) (TR := []) (k := 0) (n := 0) Z4 [0, 1] [] [0] [] rfl rfl (by decide +kernel) (by decide +kernel) (by decide +kernel) rfl rfl (fun Zc => va_runV (As := []) (rest := [.int 0]) X (c7_shadeFrom l D mo ms mi ma mts mtz mtn mh mhn mhw mhz mhr mcl mtp mna mpi mca mwa mrd j3 j14 j15 j16 j17 j18 j19 j20 j21 j22 j23 j24 j29 kms f af_0 af_1 af_2 af_3 af_4 af_5 af_6 af_7 af_8 af_9 af_10 H1.size) (cwV 0 hts gX7_firstShaded_X7_shadeFrom rfl rfl rfl ⟨rfl, zh_X7_shadeFrom⟩ ⟨Nat.le_of_ble_eq_true rfl, Nat.le_of_ble_eq_true rfl⟩) (zz_pV (ci := 7) Zc 0 rfl rfl) rfl rfl hl6.1 rfl (lv_room (Nat.le_of_ble_eq_true rfl)) dX7_firstShaded_24 ⟨Nat.le_of_ble_eq_true rfl, Nat.le_of_ble_eq_true rfl⟩) rfl rfl (fun r6 u4 H7 locs8 hw5 Z9 => ?_)
  clear Z4
  have hw5 : r6 = (-2) := hw5.trans (by decide)
  subst r6
  have Z10 : zz_S D A s [(mo, .inr (7, [.ref ms, .ref mi, .ref ma, .int j3, .ref mts, .ref mtz, .ref mtn, .ref mh, .ref mhn, .ref mhw, .ref mhz, .ref mhr, .ref mcl, .ref mtp, .int j14, .int j15, .int j16, .int j17, .int j18, .int j19, .int j20, .int j21, .int j22, .int j23, .int j24, .ref mna, .ref mpi, .ref mca, .ref mwa, .int j29, .ref mrd])), (ms, .inl (kms, 3047, .inl f))] [(kms, .int)] H7 locs8 := Z9
  clear Z9
  refine lv_aload_n hx hb dX7_firstShaded_27 rfl (lv_at hl6 1 rfl) ?_
  refine zz_get X Z10 0 rfl rfl (fun w h => List.mem_cons_of_mem _ (List.mem_append_right _ h)) 0 rfl (zz_m 1 rfl) rfl dX7_firstShaded_28 ?_
  refine lv_bipush (v := 8) hx hb dX7_firstShaded_31 (by decide) ?_
  refine zz_ild X Z10 1 0 rfl rfl (zz_in 8 3047 rfl) dX7_firstShaded_33 ?_
  refine zz_v (v := 3) af_8 ?_
  refine lv_iadd hx hb dX7_firstShaded_34 ?_
  refine zz_v (v := 1) (by decide) ?_
  refine lv_icmp_ge (tgt := 42) hx hb dX7_firstShaded_35 (by decide) (fun h => absurd h (by decide)) (fun _ => ?_)
  refine lv_iload_n hx hb dX7_firstShaded_38 rfl (lv_at hl6 0 rfl) ?_
  refine lv_goto (tgt := 43) hx hb dX7_firstShaded_39 (by decide) ?_
  exact zz_iret X hr hlk Z10 () rfl [0, 1] [0] (by decide +kernel) rfl rfl dX7_firstShaded_43

set_option maxHeartbeats 4000000 in
set_option maxRecDepth 100000 in
theorem c7_shadedSet (l : Launch) (D : va_G) (mo : Nat) (ms : Nat) (mi : Nat) (ma : Nat) (mts : Nat) (mtz : Nat) (mtn : Nat) (mh : Nat) (mhn : Nat) (mhw : Nat) (mhz : Nat) (mhr : Nat) (mcl : Nat) (mtp : Nat) (mna : Nat) (mpi : Nat) (mca : Nat) (mwa : Nat) (mrd : Nat) (j3 : Int32) (j14 : Int32) (j15 : Int32) (j16 : Int32) (j17 : Int32) (j18 : Int32) (j19 : Int32) (j20 : Int32) (j21 : Int32) (j22 : Int32) (j23 : Int32) (j24 : Int32) (j29 : Int32) (kms : ClassId) (f : (Nat → Int32)) (af_0 : f 0 = 0) (af_1 : f 1 = 0) (af_2 : f 2 = 0) (af_3 : f 3 = 0) (af_4 : f 4 = 0) (af_5 : f 5 = 0) (af_6 : f 6 = 1) (af_7 : f 7 = 0) (af_8 : f 8 = 3) (af_9 : f 9 = 10) (af_10 : f 10 = 0) : zz_MI l yX7_shadedSet wsX7_shadedSet 0 0 0 0 D [.ref mo] [(mo, .inr (7, [.ref ms, .ref mi, .ref ma, .int j3, .ref mts, .ref mtz, .ref mtn, .ref mh, .ref mhn, .ref mhw, .ref mhz, .ref mhr, .ref mcl, .ref mtp, .int j14, .int j15, .int j16, .int j17, .int j18, .int j19, .int j20, .int j21, .int j22, .int j23, .int j24, .ref mna, .ref mpi, .ref mca, .ref mwa, .int j29, .ref mrd])), (ms, .inl (kms, 3047, .inl f))] [(kms, .int)] (fun (r : Int32) (u : Unit) => r = 0) (fun (u : Unit) => [(mo, .inr (7, [.ref ms, .ref mi, .ref ma, .int j3, .ref mts, .ref mtz, .ref mtn, .ref mh, .ref mhn, .ref mhw, .ref mhz, .ref mhr, .ref mcl, .ref mtp, .int j14, .int j15, .int j16, .int j17, .int j18, .int j19, .int j20, .int j21, .int j22, .int j23, .int j24, .ref mna, .ref mpi, .ref mca, .ref mwa, .int j29, .ref mrd])), (ms, .inl (kms, 3047, .inl f))]) (fun (u : Unit) => [(kms, .int)]) := by
  intro sz
  refine Met.ofW (cc := cX7_shadedSet) (maxL := 3) (ret := (some .int)) (by decide) rfl ?_
  intro p e s m args below meth c s₁ B hml hv
  obtain ⟨rfl, hC⟩ := hv
  have hx := B.exec
  have hb := B.bytes
  have hr := B.returns
  have hts := atoms_spec (ws := wsX7_shadedSet) B.pre
  have hown : s.vm.findClass RX7 = some m.cls := findClass_of_methodNamed B.named
  have hlk := B.notSynchronized
  have X : CallFix p m c cX7_shadedSet 3 s _ wsX7_shadedSet RX7 := ⟨hx, hb, hml, hown, hts⟩
  have Z := zz_enter hC
  generalize va_A [(mo, .inr (7, [.ref ms, .ref mi, .ref ma, .int j3, .ref mts, .ref mtz, .ref mtn, .ref mh, .ref mhn, .ref mhw, .ref mhz, .ref mhr, .ref mcl, .ref mtp, .int j14, .int j15, .int j16, .int j17, .int j18, .int j19, .int j20, .int j21, .int j22, .int j23, .int j24, .ref mna, .ref mpi, .ref mca, .ref mwa, .int j29, .ref mrd])), (ms, .inl (kms, 3047, .inl f))] sz = A at Z ⊢
  have hl := lv_entry ([.ref mo]) (n := 3) (Nat.le_of_ble_eq_true rfl)
  rw [lg_entry_eq]
  generalize (lg_sl ([.ref mo]) ++ List.replicate (3 - (lg_sl ([.ref mo])).length) Slot.unset).toArray = ls at hl ⊢
  have hl : lv_has ls 3 [(0, .ref mo)] := hl
  refine lv_iconst (v := 0) hx hb dX7_shadedSet_0 (by decide) ?_
  refine lv_istore_n (lv' := [(1, .int 0), (0, .ref mo)]) hx hb dX7_shadedSet_1 rfl hl (by decide) rfl (fun ls1 hl2 => ?_)
  clear hl
  refine lv_iconst (v := 0) hx hb dX7_shadedSet_2 (by decide) ?_
  refine lv_istore_n (lv' := [(2, .int 0), (1, .int 0), (0, .ref mo)]) hx hb dX7_shadedSet_3 rfl hl2 (by decide) rfl (fun ls3 hl4 => ?_)
  clear hl2
  refine lv_iload_n hx hb dX7_shadedSet_4 rfl (lv_at hl4 0 rfl) ?_
  refine lv_aload_n hx hb dX7_shadedSet_5 rfl (lv_at hl4 2 rfl) ?_
  refine zz_get X Z 0 rfl rfl (fun w h => List.mem_cons_of_mem _ (List.mem_append_right _ h)) 0 rfl (zz_m 1 rfl) rfl dX7_shadedSet_6 ?_
  refine lv_iconst (v := 0) hx hb dX7_shadedSet_9 (by decide) ?_
  refine zz_ild X Z 1 0 rfl rfl (zz_in 0 3047 rfl) dX7_shadedSet_10 ?_
  refine zz_v (v := 0) af_0 ?_
  refine lv_icmp_ge (tgt := 38) hx hb dX7_shadedSet_11 (by decide) (fun _ => ?_) (fun h => absurd (by decide) h)
  refine lv_iload_n hx hb dX7_shadedSet_38 rfl (lv_at hl4 1 rfl) ?_
  exact zz_iret X hr hlk Z () rfl [0, 1] [0] (by decide +kernel) rfl rfl dX7_shadedSet_39

set_option maxHeartbeats 4000000 in
set_option maxRecDepth 100000 in
theorem c7_manyShaded (l : Launch) (D : va_G) (mo : Nat) (ms : Nat) (mi : Nat) (ma : Nat) (mts : Nat) (mtz : Nat) (mtn : Nat) (mh : Nat) (mhn : Nat) (mhw : Nat) (mhz : Nat) (mhr : Nat) (mcl : Nat) (mtp : Nat) (mna : Nat) (mpi : Nat) (mca : Nat) (mwa : Nat) (mrd : Nat) (j3 : Int32) (j14 : Int32) (j15 : Int32) (j16 : Int32) (j17 : Int32) (j18 : Int32) (j19 : Int32) (j20 : Int32) (j21 : Int32) (j22 : Int32) (j23 : Int32) (j24 : Int32) (j29 : Int32) (kms : ClassId) (f : (Nat → Int32)) (af_0 : f 0 = 0) (af_1 : f 1 = 0) (af_2 : f 2 = 0) (af_3 : f 3 = 0) (af_4 : f 4 = 0) (af_5 : f 5 = 0) (af_6 : f 6 = 1) (af_7 : f 7 = 0) (af_8 : f 8 = 3) (af_9 : f 9 = 10) (af_10 : f 10 = 0) : zz_MI l yX7_manyShaded wsX7_manyShaded 1 22 0 0 D [.ref mo] [(mo, .inr (7, [.ref ms, .ref mi, .ref ma, .int j3, .ref mts, .ref mtz, .ref mtn, .ref mh, .ref mhn, .ref mhw, .ref mhz, .ref mhr, .ref mcl, .ref mtp, .int j14, .int j15, .int j16, .int j17, .int j18, .int j19, .int j20, .int j21, .int j22, .int j23, .int j24, .ref mna, .ref mpi, .ref mca, .ref mwa, .int j29, .ref mrd])), (ms, .inl (kms, 3047, .inl f))] [(kms, .int)] (fun (r : Int32) (u : Unit) => r = 0) (fun (u : Unit) => [(mo, .inr (7, [.ref ms, .ref mi, .ref ma, .int j3, .ref mts, .ref mtz, .ref mtn, .ref mh, .ref mhn, .ref mhw, .ref mhz, .ref mhr, .ref mcl, .ref mtp, .int j14, .int j15, .int j16, .int j17, .int j18, .int j19, .int j20, .int j21, .int j22, .int j23, .int j24, .ref mna, .ref mpi, .ref mca, .ref mwa, .int j29, .ref mrd])), (ms, .inl (kms, 3047, .inl f))]) (fun (u : Unit) => [(kms, .int)]) := by
  intro sz
  refine Met.ofW (cc := cX7_manyShaded) (maxL := 3) (ret := (some .int)) (by decide) rfl ?_
  intro p e s m args below meth c s₁ B hml hv
  obtain ⟨rfl, hC⟩ := hv
  have hx := B.exec
  have hb := B.bytes
  have hr := B.returns
  have hts := atoms_spec (ws := wsX7_manyShaded) B.pre
  have hown : s.vm.findClass RX7 = some m.cls := findClass_of_methodNamed B.named
  have hlk := B.notSynchronized
  have X : CallFix p m c cX7_manyShaded 3 s _ wsX7_manyShaded RX7 := ⟨hx, hb, hml, hown, hts⟩
  have Z := zz_enter hC
  generalize va_A [(mo, .inr (7, [.ref ms, .ref mi, .ref ma, .int j3, .ref mts, .ref mtz, .ref mtn, .ref mh, .ref mhn, .ref mhw, .ref mhz, .ref mhr, .ref mcl, .ref mtp, .int j14, .int j15, .int j16, .int j17, .int j18, .int j19, .int j20, .int j21, .int j22, .int j23, .int j24, .ref mna, .ref mpi, .ref mca, .ref mwa, .int j29, .ref mrd])), (ms, .inl (kms, 3047, .inl f))] sz = A at Z ⊢
  have hl := lv_entry ([.ref mo]) (n := 3) (Nat.le_of_ble_eq_true rfl)
  rw [lg_entry_eq]
  generalize (lg_sl ([.ref mo]) ++ List.replicate (3 - (lg_sl ([.ref mo])).length) Slot.unset).toArray = ls at hl ⊢
  have hl : lv_has ls 3 [(0, .ref mo)] := hl
  refine lv_iconst (v := 0) hx hb dX7_manyShaded_0 (by decide) ?_
  refine lv_istore_n (lv' := [(1, .int 0), (0, .ref mo)]) hx hb dX7_manyShaded_1 rfl hl (by decide) rfl (fun ls1 hl2 => ?_)
  clear hl
  refine lv_aload_n hx hb dX7_manyShaded_2 rfl (lv_at hl2 1 rfl) ?_
  refine zz_ci (WC := [(mo, .inr (7, [.ref ms, .ref mi, .ref ma, .int j3, .ref mts, .ref mtz, .ref mtn, .ref mh, .ref mhn, .ref mhw, .ref mhz, .ref mhr, .ref mcl, .ref mtp, .int j14, .int j15, .int j16, .int j17, .int j18, .int j19, .int j20, .int j21, .int j22, .int j23, .int j24, .ref mna, .ref mpi, .ref mca, .ref mwa, .int j29, .ref mrd])), (ms, .inl (kms, 3047, .inl f))]) (TC := [(kms, .int)]) (WR := []) (TR := []) (k := 0) (n := 0) Z [0, 1] [] [0] [] rfl rfl (by decide +kernel) (by decide +kernel) (by decide +kernel) rfl rfl (fun Zc => va_runV (As := []) (rest := []) X (c7_shadedSet l D mo ms mi ma mts mtz mtn mh mhn mhw mhz mhr mcl mtp mna mpi mca mwa mrd j3 j14 j15 j16 j17 j18 j19 j20 j21 j22 j23 j24 j29 kms f af_0 af_1 af_2 af_3 af_4 af_5 af_6 af_7 af_8 af_9 af_10 s.heap.size) (cwV 0 hts gX7_manyShaded_X7_shadedSet rfl rfl rfl ⟨rfl, zh_X7_shadedSet⟩ ⟨Nat.le_of_ble_eq_true rfl, Nat.le_of_ble_eq_true rfl⟩) (zz_pV (ci := 7) Zc 0 rfl rfl) rfl rfl hl2.1 rfl (lv_room (Nat.le_of_ble_eq_true rfl)) dX7_manyShaded_3 ⟨Nat.le_of_ble_eq_true rfl, Nat.le_of_ble_eq_true rfl⟩) rfl rfl (fun r3 u1 H3 locs4 hw2 Z5 => ?_)
  clear Z
  have hw2 : r3 = 0 := hw2.trans (by decide)
  subst r3
  have Z6 : zz_S D A s [(mo, .inr (7, [.ref ms, .ref mi, .ref ma, .int j3, .ref mts, .ref mtz, .ref mtn, .ref mh, .ref mhn, .ref mhw, .ref mhz, .ref mhr, .ref mcl, .ref mtp, .int j14, .int j15, .int j16, .int j17, .int j18, .int j19, .int j20, .int j21, .int j22, .int j23, .int j24, .ref mna, .ref mpi, .ref mca, .ref mwa, .int j29, .ref mrd])), (ms, .inl (kms, 3047, .inl f))] [(kms, .int)] H3 locs4 := Z5
  clear Z5
  refine lv_istore_n (lv' := [(2, .int 0), (1, .int 0), (0, .ref mo)]) hx hb dX7_manyShaded_6 rfl hl2 (by decide) rfl (fun ls7 hl8 => ?_)
  clear hl2
  refine lv_iload_n hx hb dX7_manyShaded_7 rfl (lv_at hl8 0 rfl) ?_
  refine lv_if_eq (tgt := 23) hx hb dX7_manyShaded_8 (by decide) (fun _ => ?_) (fun h => absurd (by decide) h)
  refine lv_iload_n hx hb dX7_manyShaded_23 rfl (lv_at hl8 1 rfl) ?_
  exact zz_iret X hr hlk Z6 () rfl [0, 1] [0] (by decide +kernel) rfl rfl dX7_manyShaded_24

set_option maxHeartbeats 4000000 in
set_option maxRecDepth 100000 in
theorem c7_becomes6 (l : Launch) (D : va_G) (mo : Nat) (ms : Nat) (mi : Nat) (ma : Nat) (mts : Nat) (mtz : Nat) (mtn : Nat) (mh : Nat) (mhn : Nat) (mhw : Nat) (mhz : Nat) (mhr : Nat) (mcl : Nat) (mtp : Nat) (mna : Nat) (mpi : Nat) (mca : Nat) (mwa : Nat) (mrd : Nat) (j3 : Int32) (j14 : Int32) (j15 : Int32) (j16 : Int32) (j17 : Int32) (j18 : Int32) (j19 : Int32) (j20 : Int32) (j21 : Int32) (j22 : Int32) (j23 : Int32) (j24 : Int32) (j29 : Int32) (kms : ClassId) (f : (Nat → Int32)) (a0 : Int32) (a1 : Int32) (a2 : Int32) (a3 : Int32) (a4 : Int32) (a5 : Int32) (a6 : Int32) (a7 : Int32) (a8 : Int32) (a9 : Int32) (a10 : Int32) (v : Int32) (af_0 : f 0 = a0) (af_1 : f 1 = a1) (af_2 : f 2 = a2) (af_3 : f 3 = a3) (af_4 : f 4 = a4) (af_5 : f 5 = a5) (af_6 : f 6 = a6) (af_7 : f 7 = a7) (af_8 : f 8 = a8) (af_9 : f 9 = a9) (af_10 : f 10 = a10) : zz_MI l yX7_becomes wsX7_becomes 0 0 0 0 D [.ref mo, .int 6, .int v] [(mo, .inr (7, [.ref ms, .ref mi, .ref ma, .int j3, .ref mts, .ref mtz, .ref mtn, .ref mh, .ref mhn, .ref mhw, .ref mhz, .ref mhr, .ref mcl, .ref mtp, .int j14, .int j15, .int j16, .int j17, .int j18, .int j19, .int j20, .int j21, .int j22, .int j23, .int j24, .ref mna, .ref mpi, .ref mca, .ref mwa, .int j29, .ref mrd])), (ms, .inl (kms, 3047, .inl f))] [(kms, .int)] (fun (r : Int32) (f9 : (Nat → Int32)) => (f9 0 = a0 ∧ f9 1 = a1 ∧ f9 2 = a2 ∧ f9 3 = a3 ∧ f9 4 = a4 ∧ f9 5 = a5 ∧ f9 6 = v ∧ f9 7 = a7 ∧ f9 8 = a8 ∧ f9 9 = a9 ∧ f9 10 = a10) ∧ (r = a6)) (fun (f9 : (Nat → Int32)) => [(mo, .inr (7, [.ref ms, .ref mi, .ref ma, .int j3, .ref mts, .ref mtz, .ref mtn, .ref mh, .ref mhn, .ref mhw, .ref mhz, .ref mhr, .ref mcl, .ref mtp, .int j14, .int j15, .int j16, .int j17, .int j18, .int j19, .int j20, .int j21, .int j22, .int j23, .int j24, .ref mna, .ref mpi, .ref mca, .ref mwa, .int j29, .ref mrd])), (ms, .inl (kms, 3047, .inl f9))]) (fun (f9 : (Nat → Int32)) => [(kms, .int)]) := by
  intro sz
  refine Met.ofW (cc := cX7_becomes) (maxL := 4) (ret := (some .int)) (by decide) rfl ?_
  intro p e s m args below meth c s₁ B hml hv
  obtain ⟨rfl, hC⟩ := hv
  have hx := B.exec
  have hb := B.bytes
  have hr := B.returns
  have hts := atoms_spec (ws := wsX7_becomes) B.pre
  have hown : s.vm.findClass RX7 = some m.cls := findClass_of_methodNamed B.named
  have hlk := B.notSynchronized
  have X : CallFix p m c cX7_becomes 4 s _ wsX7_becomes RX7 := ⟨hx, hb, hml, hown, hts⟩
  have Z := zz_enter hC
  generalize va_A [(mo, .inr (7, [.ref ms, .ref mi, .ref ma, .int j3, .ref mts, .ref mtz, .ref mtn, .ref mh, .ref mhn, .ref mhw, .ref mhz, .ref mhr, .ref mcl, .ref mtp, .int j14, .int j15, .int j16, .int j17, .int j18, .int j19, .int j20, .int j21, .int j22, .int j23, .int j24, .ref mna, .ref mpi, .ref mca, .ref mwa, .int j29, .ref mrd])), (ms, .inl (kms, 3047, .inl f))] sz = A at Z ⊢
  have hl := lv_entry ([.ref mo, .int 6, .int v]) (n := 4) (Nat.le_of_ble_eq_true rfl)
  rw [lg_entry_eq]
  generalize (lg_sl ([.ref mo, .int 6, .int v]) ++ List.replicate (4 - (lg_sl ([.ref mo, .int 6, .int v])).length) Slot.unset).toArray = ls at hl ⊢
  have hl : lv_has ls 4 [(0, .ref mo), (1, .int 6), (2, .int v)] := hl
  refine lv_aload_n hx hb dX7_becomes_0 rfl (lv_at hl 0 rfl) ?_
  refine zz_get X Z 0 rfl rfl (fun w h => List.mem_cons_of_mem _ (List.mem_append_right _ h)) 0 rfl (zz_m 1 rfl) rfl dX7_becomes_1 ?_
  refine lv_iload_n hx hb dX7_becomes_4 rfl (lv_at hl 1 rfl) ?_
  refine zz_ild X Z 1 0 rfl rfl (zz_in 6 3047 rfl) dX7_becomes_5 ?_
  refine zz_v (v := a6) af_6 ?_
  refine lv_istore_n (lv' := [(3, .int a6), (0, .ref mo), (1, .int 6), (2, .int v)]) hx hb dX7_becomes_6 rfl hl (by decide) rfl (fun ls1 hl2 => ?_)
  clear hl
  refine lv_aload_n hx hb dX7_becomes_7 rfl (lv_at hl2 1 rfl) ?_
  refine zz_get X Z 0 rfl rfl (fun w h => List.mem_cons_of_mem _ (List.mem_append_right _ h)) 0 rfl (zz_m 1 rfl) rfl dX7_becomes_8 ?_
  refine lv_iload_n hx hb dX7_becomes_11 rfl (lv_at hl2 2 rfl) ?_
  refine lv_iload_n hx hb dX7_becomes_12 rfl (lv_at hl2 3 rfl) ?_
  refine zz_istN (WS' := fun f1 => [(mo, .inr (7, [.ref ms, .ref mi, .ref ma, .int j3, .ref mts, .ref mtz, .ref mtn, .ref mh, .ref mhn, .ref mhw, .ref mhz, .ref mhr, .ref mcl, .ref mtp, .int j14, .int j15, .int j16, .int j17, .int j18, .int j19, .int j20, .int j21, .int j22, .int j23, .int j24, .ref mna, .ref mpi, .ref mca, .ref mwa, .int j29, .ref mrd])), (ms, .inl (kms, 3047, .inl f1))]) X Z 1 0 rfl rfl (zz_in 6 3047 rfl) dX7_becomes_13 (fun _ => rfl) (fun f1 ef2 H3 locs4 Z5 => ?_)
  clear Z
  have p3 : f1 6 = v := (by rw [ef2]; rfl)
  have p4 : f1 0 = a0 := (by rw [ef2]; exact af_0)
  have p5 : f1 1 = a1 := (by rw [ef2]; exact af_1)
  have p6 : f1 2 = a2 := (by rw [ef2]; exact af_2)
  have p7 : f1 3 = a3 := (by rw [ef2]; exact af_3)
  have p8 : f1 4 = a4 := (by rw [ef2]; exact af_4)
  have p9 : f1 5 = a5 := (by rw [ef2]; exact af_5)
  have p10 : f1 7 = a7 := (by rw [ef2]; exact af_7)
  have p11 : f1 8 = a8 := (by rw [ef2]; exact af_8)
  have p12 : f1 9 = a9 := (by rw [ef2]; exact af_9)
  have p13 : f1 10 = a10 := (by rw [ef2]; exact af_10)
  refine lv_iload_n hx hb dX7_becomes_14 rfl (lv_at hl2 0 rfl) ?_
  exact zz_iret X hr hlk Z5 (f1) ⟨⟨p4, p5, p6, p7, p8, p9, p3, p10, p11, p12, p13⟩, rfl⟩ [0, 1] [0] (by decide +kernel) rfl rfl dX7_becomes_15

set_option maxHeartbeats 4000000 in
set_option maxRecDepth 100000 in
theorem c7_becomes7 (l : Launch) (D : va_G) (mo : Nat) (ms : Nat) (mi : Nat) (ma : Nat) (mts : Nat) (mtz : Nat) (mtn : Nat) (mh : Nat) (mhn : Nat) (mhw : Nat) (mhz : Nat) (mhr : Nat) (mcl : Nat) (mtp : Nat) (mna : Nat) (mpi : Nat) (mca : Nat) (mwa : Nat) (mrd : Nat) (j3 : Int32) (j14 : Int32) (j15 : Int32) (j16 : Int32) (j17 : Int32) (j18 : Int32) (j19 : Int32) (j20 : Int32) (j21 : Int32) (j22 : Int32) (j23 : Int32) (j24 : Int32) (j29 : Int32) (kms : ClassId) (f : (Nat → Int32)) (a0 : Int32) (a1 : Int32) (a2 : Int32) (a3 : Int32) (a4 : Int32) (a5 : Int32) (a6 : Int32) (a7 : Int32) (a8 : Int32) (a9 : Int32) (a10 : Int32) (v : Int32) (af_0 : f 0 = a0) (af_1 : f 1 = a1) (af_2 : f 2 = a2) (af_3 : f 3 = a3) (af_4 : f 4 = a4) (af_5 : f 5 = a5) (af_6 : f 6 = a6) (af_7 : f 7 = a7) (af_8 : f 8 = a8) (af_9 : f 9 = a9) (af_10 : f 10 = a10) : zz_MI l yX7_becomes wsX7_becomes 0 0 0 0 D [.ref mo, .int 7, .int v] [(mo, .inr (7, [.ref ms, .ref mi, .ref ma, .int j3, .ref mts, .ref mtz, .ref mtn, .ref mh, .ref mhn, .ref mhw, .ref mhz, .ref mhr, .ref mcl, .ref mtp, .int j14, .int j15, .int j16, .int j17, .int j18, .int j19, .int j20, .int j21, .int j22, .int j23, .int j24, .ref mna, .ref mpi, .ref mca, .ref mwa, .int j29, .ref mrd])), (ms, .inl (kms, 3047, .inl f))] [(kms, .int)] (fun (r : Int32) (f9 : (Nat → Int32)) => (f9 0 = a0 ∧ f9 1 = a1 ∧ f9 2 = a2 ∧ f9 3 = a3 ∧ f9 4 = a4 ∧ f9 5 = a5 ∧ f9 6 = a6 ∧ f9 7 = v ∧ f9 8 = a8 ∧ f9 9 = a9 ∧ f9 10 = a10) ∧ (r = a7)) (fun (f9 : (Nat → Int32)) => [(mo, .inr (7, [.ref ms, .ref mi, .ref ma, .int j3, .ref mts, .ref mtz, .ref mtn, .ref mh, .ref mhn, .ref mhw, .ref mhz, .ref mhr, .ref mcl, .ref mtp, .int j14, .int j15, .int j16, .int j17, .int j18, .int j19, .int j20, .int j21, .int j22, .int j23, .int j24, .ref mna, .ref mpi, .ref mca, .ref mwa, .int j29, .ref mrd])), (ms, .inl (kms, 3047, .inl f9))]) (fun (f9 : (Nat → Int32)) => [(kms, .int)]) := by
  intro sz
  refine Met.ofW (cc := cX7_becomes) (maxL := 4) (ret := (some .int)) (by decide) rfl ?_
  intro p e s m args below meth c s₁ B hml hv
  obtain ⟨rfl, hC⟩ := hv
  have hx := B.exec
  have hb := B.bytes
  have hr := B.returns
  have hts := atoms_spec (ws := wsX7_becomes) B.pre
  have hown : s.vm.findClass RX7 = some m.cls := findClass_of_methodNamed B.named
  have hlk := B.notSynchronized
  have X : CallFix p m c cX7_becomes 4 s _ wsX7_becomes RX7 := ⟨hx, hb, hml, hown, hts⟩
  have Z := zz_enter hC
  generalize va_A [(mo, .inr (7, [.ref ms, .ref mi, .ref ma, .int j3, .ref mts, .ref mtz, .ref mtn, .ref mh, .ref mhn, .ref mhw, .ref mhz, .ref mhr, .ref mcl, .ref mtp, .int j14, .int j15, .int j16, .int j17, .int j18, .int j19, .int j20, .int j21, .int j22, .int j23, .int j24, .ref mna, .ref mpi, .ref mca, .ref mwa, .int j29, .ref mrd])), (ms, .inl (kms, 3047, .inl f))] sz = A at Z ⊢
  have hl := lv_entry ([.ref mo, .int 7, .int v]) (n := 4) (Nat.le_of_ble_eq_true rfl)
  rw [lg_entry_eq]
  generalize (lg_sl ([.ref mo, .int 7, .int v]) ++ List.replicate (4 - (lg_sl ([.ref mo, .int 7, .int v])).length) Slot.unset).toArray = ls at hl ⊢
  have hl : lv_has ls 4 [(0, .ref mo), (1, .int 7), (2, .int v)] := hl
  refine lv_aload_n hx hb dX7_becomes_0 rfl (lv_at hl 0 rfl) ?_
  refine zz_get X Z 0 rfl rfl (fun w h => List.mem_cons_of_mem _ (List.mem_append_right _ h)) 0 rfl (zz_m 1 rfl) rfl dX7_becomes_1 ?_
  refine lv_iload_n hx hb dX7_becomes_4 rfl (lv_at hl 1 rfl) ?_
  refine zz_ild X Z 1 0 rfl rfl (zz_in 7 3047 rfl) dX7_becomes_5 ?_
  refine zz_v (v := a7) af_7 ?_
  refine lv_istore_n (lv' := [(3, .int a7), (0, .ref mo), (1, .int 7), (2, .int v)]) hx hb dX7_becomes_6 rfl hl (by decide) rfl (fun ls1 hl2 => ?_)
  clear hl
  refine lv_aload_n hx hb dX7_becomes_7 rfl (lv_at hl2 1 rfl) ?_
  refine zz_get X Z 0 rfl rfl (fun w h => List.mem_cons_of_mem _ (List.mem_append_right _ h)) 0 rfl (zz_m 1 rfl) rfl dX7_becomes_8 ?_
  refine lv_iload_n hx hb dX7_becomes_11 rfl (lv_at hl2 2 rfl) ?_
  refine lv_iload_n hx hb dX7_becomes_12 rfl (lv_at hl2 3 rfl) ?_
  refine zz_istN (WS' := fun f1 => [(mo, .inr (7, [.ref ms, .ref mi, .ref ma, .int j3, .ref mts, .ref mtz, .ref mtn, .ref mh, .ref mhn, .ref mhw, .ref mhz, .ref mhr, .ref mcl, .ref mtp, .int j14, .int j15, .int j16, .int j17, .int j18, .int j19, .int j20, .int j21, .int j22, .int j23, .int j24, .ref mna, .ref mpi, .ref mca, .ref mwa, .int j29, .ref mrd])), (ms, .inl (kms, 3047, .inl f1))]) X Z 1 0 rfl rfl (zz_in 7 3047 rfl) dX7_becomes_13 (fun _ => rfl) (fun f1 ef2 H3 locs4 Z5 => ?_)
  clear Z
  have p3 : f1 7 = v := (by rw [ef2]; rfl)
  have p4 : f1 0 = a0 := (by rw [ef2]; exact af_0)
  have p5 : f1 1 = a1 := (by rw [ef2]; exact af_1)
  have p6 : f1 2 = a2 := (by rw [ef2]; exact af_2)
  have p7 : f1 3 = a3 := (by rw [ef2]; exact af_3)
  have p8 : f1 4 = a4 := (by rw [ef2]; exact af_4)
  have p9 : f1 5 = a5 := (by rw [ef2]; exact af_5)
  have p10 : f1 6 = a6 := (by rw [ef2]; exact af_6)
  have p11 : f1 8 = a8 := (by rw [ef2]; exact af_8)
  have p12 : f1 9 = a9 := (by rw [ef2]; exact af_9)
  have p13 : f1 10 = a10 := (by rw [ef2]; exact af_10)
  refine lv_iload_n hx hb dX7_becomes_14 rfl (lv_at hl2 0 rfl) ?_
  exact zz_iret X hr hlk Z5 (f1) ⟨⟨p4, p5, p6, p7, p8, p9, p10, p3, p11, p12, p13⟩, rfl⟩ [0, 1] [0] (by decide +kernel) rfl rfl dX7_becomes_15

set_option maxHeartbeats 4000000 in
set_option maxRecDepth 100000 in
theorem c7_becomes8 (l : Launch) (D : va_G) (mo : Nat) (ms : Nat) (mi : Nat) (ma : Nat) (mts : Nat) (mtz : Nat) (mtn : Nat) (mh : Nat) (mhn : Nat) (mhw : Nat) (mhz : Nat) (mhr : Nat) (mcl : Nat) (mtp : Nat) (mna : Nat) (mpi : Nat) (mca : Nat) (mwa : Nat) (mrd : Nat) (j3 : Int32) (j14 : Int32) (j15 : Int32) (j16 : Int32) (j17 : Int32) (j18 : Int32) (j19 : Int32) (j20 : Int32) (j21 : Int32) (j22 : Int32) (j23 : Int32) (j24 : Int32) (j29 : Int32) (kms : ClassId) (f : (Nat → Int32)) (a0 : Int32) (a1 : Int32) (a2 : Int32) (a3 : Int32) (a4 : Int32) (a5 : Int32) (a6 : Int32) (a7 : Int32) (a8 : Int32) (a9 : Int32) (a10 : Int32) (v : Int32) (af_0 : f 0 = a0) (af_1 : f 1 = a1) (af_2 : f 2 = a2) (af_3 : f 3 = a3) (af_4 : f 4 = a4) (af_5 : f 5 = a5) (af_6 : f 6 = a6) (af_7 : f 7 = a7) (af_8 : f 8 = a8) (af_9 : f 9 = a9) (af_10 : f 10 = a10) : zz_MI l yX7_becomes wsX7_becomes 0 0 0 0 D [.ref mo, .int 8, .int v] [(mo, .inr (7, [.ref ms, .ref mi, .ref ma, .int j3, .ref mts, .ref mtz, .ref mtn, .ref mh, .ref mhn, .ref mhw, .ref mhz, .ref mhr, .ref mcl, .ref mtp, .int j14, .int j15, .int j16, .int j17, .int j18, .int j19, .int j20, .int j21, .int j22, .int j23, .int j24, .ref mna, .ref mpi, .ref mca, .ref mwa, .int j29, .ref mrd])), (ms, .inl (kms, 3047, .inl f))] [(kms, .int)] (fun (r : Int32) (f9 : (Nat → Int32)) => (f9 0 = a0 ∧ f9 1 = a1 ∧ f9 2 = a2 ∧ f9 3 = a3 ∧ f9 4 = a4 ∧ f9 5 = a5 ∧ f9 6 = a6 ∧ f9 7 = a7 ∧ f9 8 = v ∧ f9 9 = a9 ∧ f9 10 = a10) ∧ (r = a8)) (fun (f9 : (Nat → Int32)) => [(mo, .inr (7, [.ref ms, .ref mi, .ref ma, .int j3, .ref mts, .ref mtz, .ref mtn, .ref mh, .ref mhn, .ref mhw, .ref mhz, .ref mhr, .ref mcl, .ref mtp, .int j14, .int j15, .int j16, .int j17, .int j18, .int j19, .int j20, .int j21, .int j22, .int j23, .int j24, .ref mna, .ref mpi, .ref mca, .ref mwa, .int j29, .ref mrd])), (ms, .inl (kms, 3047, .inl f9))]) (fun (f9 : (Nat → Int32)) => [(kms, .int)]) := by
  intro sz
  refine Met.ofW (cc := cX7_becomes) (maxL := 4) (ret := (some .int)) (by decide) rfl ?_
  intro p e s m args below meth c s₁ B hml hv
  obtain ⟨rfl, hC⟩ := hv
  have hx := B.exec
  have hb := B.bytes
  have hr := B.returns
  have hts := atoms_spec (ws := wsX7_becomes) B.pre
  have hown : s.vm.findClass RX7 = some m.cls := findClass_of_methodNamed B.named
  have hlk := B.notSynchronized
  have X : CallFix p m c cX7_becomes 4 s _ wsX7_becomes RX7 := ⟨hx, hb, hml, hown, hts⟩
  have Z := zz_enter hC
  generalize va_A [(mo, .inr (7, [.ref ms, .ref mi, .ref ma, .int j3, .ref mts, .ref mtz, .ref mtn, .ref mh, .ref mhn, .ref mhw, .ref mhz, .ref mhr, .ref mcl, .ref mtp, .int j14, .int j15, .int j16, .int j17, .int j18, .int j19, .int j20, .int j21, .int j22, .int j23, .int j24, .ref mna, .ref mpi, .ref mca, .ref mwa, .int j29, .ref mrd])), (ms, .inl (kms, 3047, .inl f))] sz = A at Z ⊢
  have hl := lv_entry ([.ref mo, .int 8, .int v]) (n := 4) (Nat.le_of_ble_eq_true rfl)
  rw [lg_entry_eq]
  generalize (lg_sl ([.ref mo, .int 8, .int v]) ++ List.replicate (4 - (lg_sl ([.ref mo, .int 8, .int v])).length) Slot.unset).toArray = ls at hl ⊢
  have hl : lv_has ls 4 [(0, .ref mo), (1, .int 8), (2, .int v)] := hl
  refine lv_aload_n hx hb dX7_becomes_0 rfl (lv_at hl 0 rfl) ?_
  refine zz_get X Z 0 rfl rfl (fun w h => List.mem_cons_of_mem _ (List.mem_append_right _ h)) 0 rfl (zz_m 1 rfl) rfl dX7_becomes_1 ?_
  refine lv_iload_n hx hb dX7_becomes_4 rfl (lv_at hl 1 rfl) ?_
  refine zz_ild X Z 1 0 rfl rfl (zz_in 8 3047 rfl) dX7_becomes_5 ?_
  refine zz_v (v := a8) af_8 ?_
  refine lv_istore_n (lv' := [(3, .int a8), (0, .ref mo), (1, .int 8), (2, .int v)]) hx hb dX7_becomes_6 rfl hl (by decide) rfl (fun ls1 hl2 => ?_)
  clear hl
  refine lv_aload_n hx hb dX7_becomes_7 rfl (lv_at hl2 1 rfl) ?_
  refine zz_get X Z 0 rfl rfl (fun w h => List.mem_cons_of_mem _ (List.mem_append_right _ h)) 0 rfl (zz_m 1 rfl) rfl dX7_becomes_8 ?_
  refine lv_iload_n hx hb dX7_becomes_11 rfl (lv_at hl2 2 rfl) ?_
  refine lv_iload_n hx hb dX7_becomes_12 rfl (lv_at hl2 3 rfl) ?_
  refine zz_istN (WS' := fun f1 => [(mo, .inr (7, [.ref ms, .ref mi, .ref ma, .int j3, .ref mts, .ref mtz, .ref mtn, .ref mh, .ref mhn, .ref mhw, .ref mhz, .ref mhr, .ref mcl, .ref mtp, .int j14, .int j15, .int j16, .int j17, .int j18, .int j19, .int j20, .int j21, .int j22, .int j23, .int j24, .ref mna, .ref mpi, .ref mca, .ref mwa, .int j29, .ref mrd])), (ms, .inl (kms, 3047, .inl f1))]) X Z 1 0 rfl rfl (zz_in 8 3047 rfl) dX7_becomes_13 (fun _ => rfl) (fun f1 ef2 H3 locs4 Z5 => ?_)
  clear Z
  have p3 : f1 8 = v := (by rw [ef2]; rfl)
  have p4 : f1 0 = a0 := (by rw [ef2]; exact af_0)
  have p5 : f1 1 = a1 := (by rw [ef2]; exact af_1)
  have p6 : f1 2 = a2 := (by rw [ef2]; exact af_2)
  have p7 : f1 3 = a3 := (by rw [ef2]; exact af_3)
  have p8 : f1 4 = a4 := (by rw [ef2]; exact af_4)
  have p9 : f1 5 = a5 := (by rw [ef2]; exact af_5)
  have p10 : f1 6 = a6 := (by rw [ef2]; exact af_6)
  have p11 : f1 7 = a7 := (by rw [ef2]; exact af_7)
  have p12 : f1 9 = a9 := (by rw [ef2]; exact af_9)
  have p13 : f1 10 = a10 := (by rw [ef2]; exact af_10)
  refine lv_iload_n hx hb dX7_becomes_14 rfl (lv_at hl2 0 rfl) ?_
  exact zz_iret X hr hlk Z5 (f1) ⟨⟨p4, p5, p6, p7, p8, p9, p10, p11, p3, p12, p13⟩, rfl⟩ [0, 1] [0] (by decide +kernel) rfl rfl dX7_becomes_15

set_option maxHeartbeats 4000000 in
set_option maxRecDepth 100000 in
theorem c7_becomes9 (l : Launch) (D : va_G) (mo : Nat) (ms : Nat) (mi : Nat) (ma : Nat) (mts : Nat) (mtz : Nat) (mtn : Nat) (mh : Nat) (mhn : Nat) (mhw : Nat) (mhz : Nat) (mhr : Nat) (mcl : Nat) (mtp : Nat) (mna : Nat) (mpi : Nat) (mca : Nat) (mwa : Nat) (mrd : Nat) (j3 : Int32) (j14 : Int32) (j15 : Int32) (j16 : Int32) (j17 : Int32) (j18 : Int32) (j19 : Int32) (j20 : Int32) (j21 : Int32) (j22 : Int32) (j23 : Int32) (j24 : Int32) (j29 : Int32) (kms : ClassId) (f : (Nat → Int32)) (a0 : Int32) (a1 : Int32) (a2 : Int32) (a3 : Int32) (a4 : Int32) (a5 : Int32) (a6 : Int32) (a7 : Int32) (a8 : Int32) (a9 : Int32) (a10 : Int32) (v : Int32) (af_0 : f 0 = a0) (af_1 : f 1 = a1) (af_2 : f 2 = a2) (af_3 : f 3 = a3) (af_4 : f 4 = a4) (af_5 : f 5 = a5) (af_6 : f 6 = a6) (af_7 : f 7 = a7) (af_8 : f 8 = a8) (af_9 : f 9 = a9) (af_10 : f 10 = a10) : zz_MI l yX7_becomes wsX7_becomes 0 0 0 0 D [.ref mo, .int 9, .int v] [(mo, .inr (7, [.ref ms, .ref mi, .ref ma, .int j3, .ref mts, .ref mtz, .ref mtn, .ref mh, .ref mhn, .ref mhw, .ref mhz, .ref mhr, .ref mcl, .ref mtp, .int j14, .int j15, .int j16, .int j17, .int j18, .int j19, .int j20, .int j21, .int j22, .int j23, .int j24, .ref mna, .ref mpi, .ref mca, .ref mwa, .int j29, .ref mrd])), (ms, .inl (kms, 3047, .inl f))] [(kms, .int)] (fun (r : Int32) (f9 : (Nat → Int32)) => (f9 0 = a0 ∧ f9 1 = a1 ∧ f9 2 = a2 ∧ f9 3 = a3 ∧ f9 4 = a4 ∧ f9 5 = a5 ∧ f9 6 = a6 ∧ f9 7 = a7 ∧ f9 8 = a8 ∧ f9 9 = v ∧ f9 10 = a10) ∧ (r = a9)) (fun (f9 : (Nat → Int32)) => [(mo, .inr (7, [.ref ms, .ref mi, .ref ma, .int j3, .ref mts, .ref mtz, .ref mtn, .ref mh, .ref mhn, .ref mhw, .ref mhz, .ref mhr, .ref mcl, .ref mtp, .int j14, .int j15, .int j16, .int j17, .int j18, .int j19, .int j20, .int j21, .int j22, .int j23, .int j24, .ref mna, .ref mpi, .ref mca, .ref mwa, .int j29, .ref mrd])), (ms, .inl (kms, 3047, .inl f9))]) (fun (f9 : (Nat → Int32)) => [(kms, .int)]) := by
  intro sz
  refine Met.ofW (cc := cX7_becomes) (maxL := 4) (ret := (some .int)) (by decide) rfl ?_
  intro p e s m args below meth c s₁ B hml hv
  obtain ⟨rfl, hC⟩ := hv
  have hx := B.exec
  have hb := B.bytes
  have hr := B.returns
  have hts := atoms_spec (ws := wsX7_becomes) B.pre
  have hown : s.vm.findClass RX7 = some m.cls := findClass_of_methodNamed B.named
  have hlk := B.notSynchronized
  have X : CallFix p m c cX7_becomes 4 s _ wsX7_becomes RX7 := ⟨hx, hb, hml, hown, hts⟩
  have Z := zz_enter hC
  generalize va_A [(mo, .inr (7, [.ref ms, .ref mi, .ref ma, .int j3, .ref mts, .ref mtz, .ref mtn, .ref mh, .ref mhn, .ref mhw, .ref mhz, .ref mhr, .ref mcl, .ref mtp, .int j14, .int j15, .int j16, .int j17, .int j18, .int j19, .int j20, .int j21, .int j22, .int j23, .int j24, .ref mna, .ref mpi, .ref mca, .ref mwa, .int j29, .ref mrd])), (ms, .inl (kms, 3047, .inl f))] sz = A at Z ⊢
  have hl := lv_entry ([.ref mo, .int 9, .int v]) (n := 4) (Nat.le_of_ble_eq_true rfl)
  rw [lg_entry_eq]
  generalize (lg_sl ([.ref mo, .int 9, .int v]) ++ List.replicate (4 - (lg_sl ([.ref mo, .int 9, .int v])).length) Slot.unset).toArray = ls at hl ⊢
  have hl : lv_has ls 4 [(0, .ref mo), (1, .int 9), (2, .int v)] := hl
  refine lv_aload_n hx hb dX7_becomes_0 rfl (lv_at hl 0 rfl) ?_
  refine zz_get X Z 0 rfl rfl (fun w h => List.mem_cons_of_mem _ (List.mem_append_right _ h)) 0 rfl (zz_m 1 rfl) rfl dX7_becomes_1 ?_
  refine lv_iload_n hx hb dX7_becomes_4 rfl (lv_at hl 1 rfl) ?_
  refine zz_ild X Z 1 0 rfl rfl (zz_in 9 3047 rfl) dX7_becomes_5 ?_
  refine zz_v (v := a9) af_9 ?_
  refine lv_istore_n (lv' := [(3, .int a9), (0, .ref mo), (1, .int 9), (2, .int v)]) hx hb dX7_becomes_6 rfl hl (by decide) rfl (fun ls1 hl2 => ?_)
  clear hl
  refine lv_aload_n hx hb dX7_becomes_7 rfl (lv_at hl2 1 rfl) ?_
  refine zz_get X Z 0 rfl rfl (fun w h => List.mem_cons_of_mem _ (List.mem_append_right _ h)) 0 rfl (zz_m 1 rfl) rfl dX7_becomes_8 ?_
  refine lv_iload_n hx hb dX7_becomes_11 rfl (lv_at hl2 2 rfl) ?_
  refine lv_iload_n hx hb dX7_becomes_12 rfl (lv_at hl2 3 rfl) ?_
  refine zz_istN (WS' := fun f1 => [(mo, .inr (7, [.ref ms, .ref mi, .ref ma, .int j3, .ref mts, .ref mtz, .ref mtn, .ref mh, .ref mhn, .ref mhw, .ref mhz, .ref mhr, .ref mcl, .ref mtp, .int j14, .int j15, .int j16, .int j17, .int j18, .int j19, .int j20, .int j21, .int j22, .int j23, .int j24, .ref mna, .ref mpi, .ref mca, .ref mwa, .int j29, .ref mrd])), (ms, .inl (kms, 3047, .inl f1))]) X Z 1 0 rfl rfl (zz_in 9 3047 rfl) dX7_becomes_13 (fun _ => rfl) (fun f1 ef2 H3 locs4 Z5 => ?_)
  clear Z
  have p3 : f1 9 = v := (by rw [ef2]; rfl)
  have p4 : f1 0 = a0 := (by rw [ef2]; exact af_0)
  have p5 : f1 1 = a1 := (by rw [ef2]; exact af_1)
  have p6 : f1 2 = a2 := (by rw [ef2]; exact af_2)
  have p7 : f1 3 = a3 := (by rw [ef2]; exact af_3)
  have p8 : f1 4 = a4 := (by rw [ef2]; exact af_4)
  have p9 : f1 5 = a5 := (by rw [ef2]; exact af_5)
  have p10 : f1 6 = a6 := (by rw [ef2]; exact af_6)
  have p11 : f1 7 = a7 := (by rw [ef2]; exact af_7)
  have p12 : f1 8 = a8 := (by rw [ef2]; exact af_8)
  have p13 : f1 10 = a10 := (by rw [ef2]; exact af_10)
  refine lv_iload_n hx hb dX7_becomes_14 rfl (lv_at hl2 0 rfl) ?_
  exact zz_iret X hr hlk Z5 (f1) ⟨⟨p4, p5, p6, p7, p8, p9, p10, p11, p12, p3, p13⟩, rfl⟩ [0, 1] [0] (by decide +kernel) rfl rfl dX7_becomes_15

set_option maxHeartbeats 4000000 in
set_option maxRecDepth 100000 in
theorem c7_becomes10 (l : Launch) (D : va_G) (mo : Nat) (ms : Nat) (mi : Nat) (ma : Nat) (mts : Nat) (mtz : Nat) (mtn : Nat) (mh : Nat) (mhn : Nat) (mhw : Nat) (mhz : Nat) (mhr : Nat) (mcl : Nat) (mtp : Nat) (mna : Nat) (mpi : Nat) (mca : Nat) (mwa : Nat) (mrd : Nat) (j3 : Int32) (j14 : Int32) (j15 : Int32) (j16 : Int32) (j17 : Int32) (j18 : Int32) (j19 : Int32) (j20 : Int32) (j21 : Int32) (j22 : Int32) (j23 : Int32) (j24 : Int32) (j29 : Int32) (kms : ClassId) (f : (Nat → Int32)) (a0 : Int32) (a1 : Int32) (a2 : Int32) (a3 : Int32) (a4 : Int32) (a5 : Int32) (a6 : Int32) (a7 : Int32) (a8 : Int32) (a9 : Int32) (a10 : Int32) (v : Int32) (af_0 : f 0 = a0) (af_1 : f 1 = a1) (af_2 : f 2 = a2) (af_3 : f 3 = a3) (af_4 : f 4 = a4) (af_5 : f 5 = a5) (af_6 : f 6 = a6) (af_7 : f 7 = a7) (af_8 : f 8 = a8) (af_9 : f 9 = a9) (af_10 : f 10 = a10) : zz_MI l yX7_becomes wsX7_becomes 0 0 0 0 D [.ref mo, .int 10, .int v] [(mo, .inr (7, [.ref ms, .ref mi, .ref ma, .int j3, .ref mts, .ref mtz, .ref mtn, .ref mh, .ref mhn, .ref mhw, .ref mhz, .ref mhr, .ref mcl, .ref mtp, .int j14, .int j15, .int j16, .int j17, .int j18, .int j19, .int j20, .int j21, .int j22, .int j23, .int j24, .ref mna, .ref mpi, .ref mca, .ref mwa, .int j29, .ref mrd])), (ms, .inl (kms, 3047, .inl f))] [(kms, .int)] (fun (r : Int32) (f9 : (Nat → Int32)) => (f9 0 = a0 ∧ f9 1 = a1 ∧ f9 2 = a2 ∧ f9 3 = a3 ∧ f9 4 = a4 ∧ f9 5 = a5 ∧ f9 6 = a6 ∧ f9 7 = a7 ∧ f9 8 = a8 ∧ f9 9 = a9 ∧ f9 10 = v) ∧ (r = a10)) (fun (f9 : (Nat → Int32)) => [(mo, .inr (7, [.ref ms, .ref mi, .ref ma, .int j3, .ref mts, .ref mtz, .ref mtn, .ref mh, .ref mhn, .ref mhw, .ref mhz, .ref mhr, .ref mcl, .ref mtp, .int j14, .int j15, .int j16, .int j17, .int j18, .int j19, .int j20, .int j21, .int j22, .int j23, .int j24, .ref mna, .ref mpi, .ref mca, .ref mwa, .int j29, .ref mrd])), (ms, .inl (kms, 3047, .inl f9))]) (fun (f9 : (Nat → Int32)) => [(kms, .int)]) := by
  intro sz
  refine Met.ofW (cc := cX7_becomes) (maxL := 4) (ret := (some .int)) (by decide) rfl ?_
  intro p e s m args below meth c s₁ B hml hv
  obtain ⟨rfl, hC⟩ := hv
  have hx := B.exec
  have hb := B.bytes
  have hr := B.returns
  have hts := atoms_spec (ws := wsX7_becomes) B.pre
  have hown : s.vm.findClass RX7 = some m.cls := findClass_of_methodNamed B.named
  have hlk := B.notSynchronized
  have X : CallFix p m c cX7_becomes 4 s _ wsX7_becomes RX7 := ⟨hx, hb, hml, hown, hts⟩
  have Z := zz_enter hC
  generalize va_A [(mo, .inr (7, [.ref ms, .ref mi, .ref ma, .int j3, .ref mts, .ref mtz, .ref mtn, .ref mh, .ref mhn, .ref mhw, .ref mhz, .ref mhr, .ref mcl, .ref mtp, .int j14, .int j15, .int j16, .int j17, .int j18, .int j19, .int j20, .int j21, .int j22, .int j23, .int j24, .ref mna, .ref mpi, .ref mca, .ref mwa, .int j29, .ref mrd])), (ms, .inl (kms, 3047, .inl f))] sz = A at Z ⊢
  have hl := lv_entry ([.ref mo, .int 10, .int v]) (n := 4) (Nat.le_of_ble_eq_true rfl)
  rw [lg_entry_eq]
  generalize (lg_sl ([.ref mo, .int 10, .int v]) ++ List.replicate (4 - (lg_sl ([.ref mo, .int 10, .int v])).length) Slot.unset).toArray = ls at hl ⊢
  have hl : lv_has ls 4 [(0, .ref mo), (1, .int 10), (2, .int v)] := hl
  refine lv_aload_n hx hb dX7_becomes_0 rfl (lv_at hl 0 rfl) ?_
  refine zz_get X Z 0 rfl rfl (fun w h => List.mem_cons_of_mem _ (List.mem_append_right _ h)) 0 rfl (zz_m 1 rfl) rfl dX7_becomes_1 ?_
  refine lv_iload_n hx hb dX7_becomes_4 rfl (lv_at hl 1 rfl) ?_
  refine zz_ild X Z 1 0 rfl rfl (zz_in 10 3047 rfl) dX7_becomes_5 ?_
  refine zz_v (v := a10) af_10 ?_
  refine lv_istore_n (lv' := [(3, .int a10), (0, .ref mo), (1, .int 10), (2, .int v)]) hx hb dX7_becomes_6 rfl hl (by decide) rfl (fun ls1 hl2 => ?_)
  clear hl
  refine lv_aload_n hx hb dX7_becomes_7 rfl (lv_at hl2 1 rfl) ?_
  refine zz_get X Z 0 rfl rfl (fun w h => List.mem_cons_of_mem _ (List.mem_append_right _ h)) 0 rfl (zz_m 1 rfl) rfl dX7_becomes_8 ?_
  refine lv_iload_n hx hb dX7_becomes_11 rfl (lv_at hl2 2 rfl) ?_
  refine lv_iload_n hx hb dX7_becomes_12 rfl (lv_at hl2 3 rfl) ?_
  refine zz_istN (WS' := fun f1 => [(mo, .inr (7, [.ref ms, .ref mi, .ref ma, .int j3, .ref mts, .ref mtz, .ref mtn, .ref mh, .ref mhn, .ref mhw, .ref mhz, .ref mhr, .ref mcl, .ref mtp, .int j14, .int j15, .int j16, .int j17, .int j18, .int j19, .int j20, .int j21, .int j22, .int j23, .int j24, .ref mna, .ref mpi, .ref mca, .ref mwa, .int j29, .ref mrd])), (ms, .inl (kms, 3047, .inl f1))]) X Z 1 0 rfl rfl (zz_in 10 3047 rfl) dX7_becomes_13 (fun _ => rfl) (fun f1 ef2 H3 locs4 Z5 => ?_)
  clear Z
  have p3 : f1 10 = v := (by rw [ef2]; rfl)
  have p4 : f1 0 = a0 := (by rw [ef2]; exact af_0)
  have p5 : f1 1 = a1 := (by rw [ef2]; exact af_1)
  have p6 : f1 2 = a2 := (by rw [ef2]; exact af_2)
  have p7 : f1 3 = a3 := (by rw [ef2]; exact af_3)
  have p8 : f1 4 = a4 := (by rw [ef2]; exact af_4)
  have p9 : f1 5 = a5 := (by rw [ef2]; exact af_5)
  have p10 : f1 6 = a6 := (by rw [ef2]; exact af_6)
  have p11 : f1 7 = a7 := (by rw [ef2]; exact af_7)
  have p12 : f1 8 = a8 := (by rw [ef2]; exact af_8)
  have p13 : f1 9 = a9 := (by rw [ef2]; exact af_9)
  refine lv_iload_n hx hb dX7_becomes_14 rfl (lv_at hl2 0 rfl) ?_
  exact zz_iret X hr hlk Z5 (f1) ⟨⟨p4, p5, p6, p7, p8, p9, p10, p11, p12, p13, p3⟩, rfl⟩ [0, 1] [0] (by decide +kernel) rfl rfl dX7_becomes_15

set_option maxHeartbeats 4000000 in
set_option maxRecDepth 100000 in
theorem c7_mostOf0 (l : Launch) (D : va_G) (mo : Nat) (ms : Nat) (mi : Nat) (ma : Nat) (mts : Nat) (mtz : Nat) (mtn : Nat) (mh : Nat) (mhn : Nat) (mhw : Nat) (mhz : Nat) (mhr : Nat) (mcl : Nat) (mtp : Nat) (mna : Nat) (mpi : Nat) (mca : Nat) (mwa : Nat) (mrd : Nat) (j3 : Int32) (j14 : Int32) (j15 : Int32) (j16 : Int32) (j17 : Int32) (j18 : Int32) (j19 : Int32) (j20 : Int32) (j21 : Int32) (j22 : Int32) (j23 : Int32) (j24 : Int32) (j29 : Int32) (kms : ClassId) (f : (Nat → Int32)) (af_0 : f 0 = 0) (af_1 : f 1 = 0) (af_2 : f 2 = 0) (af_3 : f 3 = 0) (af_4 : f 4 = 0) (af_5 : f 5 = 0) (af_6 : f 6 = 1) (af_7 : f 7 = 0) (af_8 : f 8 = 3) (af_9 : f 9 = 10) (af_10 : f 10 = 0) : zz_MI l yX7_mostOf wsX7_mostOf 0 0 0 0 D [.ref mo, .int 0] [(mo, .inr (7, [.ref ms, .ref mi, .ref ma, .int j3, .ref mts, .ref mtz, .ref mtn, .ref mh, .ref mhn, .ref mhw, .ref mhz, .ref mhr, .ref mcl, .ref mtp, .int j14, .int j15, .int j16, .int j17, .int j18, .int j19, .int j20, .int j21, .int j22, .int j23, .int j24, .ref mna, .ref mpi, .ref mca, .ref mwa, .int j29, .ref mrd])), (ms, .inl (kms, 3047, .inl f))] [(kms, .int)] (fun (r : Int32) (u : Unit) => r = 9) (fun (u : Unit) => [(mo, .inr (7, [.ref ms, .ref mi, .ref ma, .int j3, .ref mts, .ref mtz, .ref mtn, .ref mh, .ref mhn, .ref mhw, .ref mhz, .ref mhr, .ref mcl, .ref mtp, .int j14, .int j15, .int j16, .int j17, .int j18, .int j19, .int j20, .int j21, .int j22, .int j23, .int j24, .ref mna, .ref mpi, .ref mca, .ref mwa, .int j29, .ref mrd])), (ms, .inl (kms, 3047, .inl f))]) (fun (u : Unit) => [(kms, .int)]) := by
  intro sz
  refine Met.ofW (cc := cX7_mostOf) (maxL := 2) (ret := (some .int)) (by decide) rfl ?_
  intro p e s m args below meth c s₁ B hml hv
  obtain ⟨rfl, hC⟩ := hv
  have hx := B.exec
  have hb := B.bytes
  have hr := B.returns
  have hts := atoms_spec (ws := wsX7_mostOf) B.pre
  have hown : s.vm.findClass RX7 = some m.cls := findClass_of_methodNamed B.named
  have hlk := B.notSynchronized
  have X : CallFix p m c cX7_mostOf 2 s _ wsX7_mostOf RX7 := ⟨hx, hb, hml, hown, hts⟩
  have Z := zz_enter hC
  generalize va_A [(mo, .inr (7, [.ref ms, .ref mi, .ref ma, .int j3, .ref mts, .ref mtz, .ref mtn, .ref mh, .ref mhn, .ref mhw, .ref mhz, .ref mhr, .ref mcl, .ref mtp, .int j14, .int j15, .int j16, .int j17, .int j18, .int j19, .int j20, .int j21, .int j22, .int j23, .int j24, .ref mna, .ref mpi, .ref mca, .ref mwa, .int j29, .ref mrd])), (ms, .inl (kms, 3047, .inl f))] sz = A at Z ⊢
  have hl := lv_entry ([.ref mo, .int 0]) (n := 2) (Nat.le_of_ble_eq_true rfl)
  rw [lg_entry_eq]
  generalize (lg_sl ([.ref mo, .int 0]) ++ List.replicate (2 - (lg_sl ([.ref mo, .int 0])).length) Slot.unset).toArray = ls at hl ⊢
  have hl : lv_has ls 2 [(0, .ref mo), (1, .int 0)] := hl
  refine lv_iload_n hx hb dX7_mostOf_0 rfl (lv_at hl 1 rfl) ?_
  refine lv_if_ne (tgt := 17) hx hb dX7_mostOf_1 (by decide) (fun h => absurd (by decide) h) (fun _ => ?_)
  refine lv_bipush (v := 12) hx hb dX7_mostOf_4 (by decide) ?_
  refine lv_aload_n hx hb dX7_mostOf_6 rfl (lv_at hl 0 rfl) ?_
  refine zz_get X Z 0 rfl rfl (fun w h => List.mem_cons_of_mem _ (List.mem_append_right _ h)) 0 rfl (zz_m 1 rfl) rfl dX7_mostOf_7 ?_
  refine lv_bipush (v := 8) hx hb dX7_mostOf_10 (by decide) ?_
  refine zz_ild X Z 1 0 rfl rfl (zz_in 8 3047 rfl) dX7_mostOf_12 ?_
  refine zz_v (v := 3) af_8 ?_
  refine lv_isub hx hb dX7_mostOf_13 ?_
  refine zz_v (v := 9) (by decide) ?_
  refine lv_goto (tgt := 38) hx hb dX7_mostOf_14 (by decide) ?_
  exact zz_iret X hr hlk Z () rfl [0, 1] [0] (by decide +kernel) rfl rfl dX7_mostOf_38

set_option maxHeartbeats 4000000 in
set_option maxRecDepth 100000 in
theorem c7_mostOf1 (l : Launch) (D : va_G) (mo : Nat) (ms : Nat) (mi : Nat) (ma : Nat) (mts : Nat) (mtz : Nat) (mtn : Nat) (mh : Nat) (mhn : Nat) (mhw : Nat) (mhz : Nat) (mhr : Nat) (mcl : Nat) (mtp : Nat) (mna : Nat) (mpi : Nat) (mca : Nat) (mwa : Nat) (mrd : Nat) (j3 : Int32) (j14 : Int32) (j15 : Int32) (j16 : Int32) (j17 : Int32) (j18 : Int32) (j19 : Int32) (j20 : Int32) (j21 : Int32) (j22 : Int32) (j23 : Int32) (j24 : Int32) (j29 : Int32) (kms : ClassId) (f : (Nat → Int32)) (af_0 : f 0 = 0) (af_1 : f 1 = 0) (af_2 : f 2 = 0) (af_3 : f 3 = 0) (af_4 : f 4 = 0) (af_5 : f 5 = 0) (af_6 : f 6 = 1) (af_7 : f 7 = 0) (af_8 : f 8 = 3) (af_9 : f 9 = 10) (af_10 : f 10 = 0) : zz_MI l yX7_mostOf wsX7_mostOf 0 0 0 0 D [.ref mo, .int 1] [(mo, .inr (7, [.ref ms, .ref mi, .ref ma, .int j3, .ref mts, .ref mtz, .ref mtn, .ref mh, .ref mhn, .ref mhw, .ref mhz, .ref mhr, .ref mcl, .ref mtp, .int j14, .int j15, .int j16, .int j17, .int j18, .int j19, .int j20, .int j21, .int j22, .int j23, .int j24, .ref mna, .ref mpi, .ref mca, .ref mwa, .int j29, .ref mrd])), (ms, .inl (kms, 3047, .inl f))] [(kms, .int)] (fun (r : Int32) (u : Unit) => r = 6) (fun (u : Unit) => [(mo, .inr (7, [.ref ms, .ref mi, .ref ma, .int j3, .ref mts, .ref mtz, .ref mtn, .ref mh, .ref mhn, .ref mhw, .ref mhz, .ref mhr, .ref mcl, .ref mtp, .int j14, .int j15, .int j16, .int j17, .int j18, .int j19, .int j20, .int j21, .int j22, .int j23, .int j24, .ref mna, .ref mpi, .ref mca, .ref mwa, .int j29, .ref mrd])), (ms, .inl (kms, 3047, .inl f))]) (fun (u : Unit) => [(kms, .int)]) := by
  intro sz
  refine Met.ofW (cc := cX7_mostOf) (maxL := 2) (ret := (some .int)) (by decide) rfl ?_
  intro p e s m args below meth c s₁ B hml hv
  obtain ⟨rfl, hC⟩ := hv
  have hx := B.exec
  have hb := B.bytes
  have hr := B.returns
  have hts := atoms_spec (ws := wsX7_mostOf) B.pre
  have hown : s.vm.findClass RX7 = some m.cls := findClass_of_methodNamed B.named
  have hlk := B.notSynchronized
  have X : CallFix p m c cX7_mostOf 2 s _ wsX7_mostOf RX7 := ⟨hx, hb, hml, hown, hts⟩
  have Z := zz_enter hC
  generalize va_A [(mo, .inr (7, [.ref ms, .ref mi, .ref ma, .int j3, .ref mts, .ref mtz, .ref mtn, .ref mh, .ref mhn, .ref mhw, .ref mhz, .ref mhr, .ref mcl, .ref mtp, .int j14, .int j15, .int j16, .int j17, .int j18, .int j19, .int j20, .int j21, .int j22, .int j23, .int j24, .ref mna, .ref mpi, .ref mca, .ref mwa, .int j29, .ref mrd])), (ms, .inl (kms, 3047, .inl f))] sz = A at Z ⊢
  have hl := lv_entry ([.ref mo, .int 1]) (n := 2) (Nat.le_of_ble_eq_true rfl)
  rw [lg_entry_eq]
  generalize (lg_sl ([.ref mo, .int 1]) ++ List.replicate (2 - (lg_sl ([.ref mo, .int 1])).length) Slot.unset).toArray = ls at hl ⊢
  have hl : lv_has ls 2 [(0, .ref mo), (1, .int 1)] := hl
  refine lv_iload_n hx hb dX7_mostOf_0 rfl (lv_at hl 1 rfl) ?_
  refine lv_if_ne (tgt := 17) hx hb dX7_mostOf_1 (by decide) (fun _ => ?_) (fun h => absurd h (by decide))
  refine lv_iload_n hx hb dX7_mostOf_17 rfl (lv_at hl 1 rfl) ?_
  refine lv_iconst (v := 1) hx hb dX7_mostOf_18 (by decide) ?_
  refine lv_icmp_ne (tgt := 27) hx hb dX7_mostOf_19 (by decide) (fun h => absurd (by decide) h) (fun _ => ?_)
  refine lv_bipush (v := 6) hx hb dX7_mostOf_22 (by decide) ?_
  refine lv_goto (tgt := 38) hx hb dX7_mostOf_24 (by decide) ?_
  exact zz_iret X hr hlk Z () rfl [0, 1] [0] (by decide +kernel) rfl rfl dX7_mostOf_38

set_option maxHeartbeats 4000000 in
set_option maxRecDepth 100000 in
theorem c7_mostOf2 (l : Launch) (D : va_G) (mo : Nat) (ms : Nat) (mi : Nat) (ma : Nat) (mts : Nat) (mtz : Nat) (mtn : Nat) (mh : Nat) (mhn : Nat) (mhw : Nat) (mhz : Nat) (mhr : Nat) (mcl : Nat) (mtp : Nat) (mna : Nat) (mpi : Nat) (mca : Nat) (mwa : Nat) (mrd : Nat) (j3 : Int32) (j14 : Int32) (j15 : Int32) (j16 : Int32) (j17 : Int32) (j18 : Int32) (j19 : Int32) (j20 : Int32) (j21 : Int32) (j22 : Int32) (j23 : Int32) (j24 : Int32) (j29 : Int32) (kms : ClassId) (f : (Nat → Int32)) (af_0 : f 0 = 0) (af_1 : f 1 = 0) (af_2 : f 2 = 0) (af_3 : f 3 = 0) (af_4 : f 4 = 0) (af_5 : f 5 = 0) (af_6 : f 6 = 1) (af_7 : f 7 = 0) (af_8 : f 8 = 3) (af_9 : f 9 = 10) (af_10 : f 10 = 0) : zz_MI l yX7_mostOf wsX7_mostOf 0 0 0 0 D [.ref mo, .int 2] [(mo, .inr (7, [.ref ms, .ref mi, .ref ma, .int j3, .ref mts, .ref mtz, .ref mtn, .ref mh, .ref mhn, .ref mhw, .ref mhz, .ref mhr, .ref mcl, .ref mtp, .int j14, .int j15, .int j16, .int j17, .int j18, .int j19, .int j20, .int j21, .int j22, .int j23, .int j24, .ref mna, .ref mpi, .ref mca, .ref mwa, .int j29, .ref mrd])), (ms, .inl (kms, 3047, .inl f))] [(kms, .int)] (fun (r : Int32) (u : Unit) => r = 100) (fun (u : Unit) => [(mo, .inr (7, [.ref ms, .ref mi, .ref ma, .int j3, .ref mts, .ref mtz, .ref mtn, .ref mh, .ref mhn, .ref mhw, .ref mhz, .ref mhr, .ref mcl, .ref mtp, .int j14, .int j15, .int j16, .int j17, .int j18, .int j19, .int j20, .int j21, .int j22, .int j23, .int j24, .ref mna, .ref mpi, .ref mca, .ref mwa, .int j29, .ref mrd])), (ms, .inl (kms, 3047, .inl f))]) (fun (u : Unit) => [(kms, .int)]) := by
  intro sz
  refine Met.ofW (cc := cX7_mostOf) (maxL := 2) (ret := (some .int)) (by decide) rfl ?_
  intro p e s m args below meth c s₁ B hml hv
  obtain ⟨rfl, hC⟩ := hv
  have hx := B.exec
  have hb := B.bytes
  have hr := B.returns
  have hts := atoms_spec (ws := wsX7_mostOf) B.pre
  have hown : s.vm.findClass RX7 = some m.cls := findClass_of_methodNamed B.named
  have hlk := B.notSynchronized
  have X : CallFix p m c cX7_mostOf 2 s _ wsX7_mostOf RX7 := ⟨hx, hb, hml, hown, hts⟩
  have Z := zz_enter hC
  generalize va_A [(mo, .inr (7, [.ref ms, .ref mi, .ref ma, .int j3, .ref mts, .ref mtz, .ref mtn, .ref mh, .ref mhn, .ref mhw, .ref mhz, .ref mhr, .ref mcl, .ref mtp, .int j14, .int j15, .int j16, .int j17, .int j18, .int j19, .int j20, .int j21, .int j22, .int j23, .int j24, .ref mna, .ref mpi, .ref mca, .ref mwa, .int j29, .ref mrd])), (ms, .inl (kms, 3047, .inl f))] sz = A at Z ⊢
  have hl := lv_entry ([.ref mo, .int 2]) (n := 2) (Nat.le_of_ble_eq_true rfl)
  rw [lg_entry_eq]
  generalize (lg_sl ([.ref mo, .int 2]) ++ List.replicate (2 - (lg_sl ([.ref mo, .int 2])).length) Slot.unset).toArray = ls at hl ⊢
  have hl : lv_has ls 2 [(0, .ref mo), (1, .int 2)] := hl
  refine lv_iload_n hx hb dX7_mostOf_0 rfl (lv_at hl 1 rfl) ?_
  refine lv_if_ne (tgt := 17) hx hb dX7_mostOf_1 (by decide) (fun _ => ?_) (fun h => absurd h (by decide))
  refine lv_iload_n hx hb dX7_mostOf_17 rfl (lv_at hl 1 rfl) ?_
  refine lv_iconst (v := 1) hx hb dX7_mostOf_18 (by decide) ?_
  refine lv_icmp_ne (tgt := 27) hx hb dX7_mostOf_19 (by decide) (fun _ => ?_) (fun h => absurd h (by decide))
  refine lv_iload_n hx hb dX7_mostOf_27 rfl (lv_at hl 1 rfl) ?_
  refine lv_iconst (v := 2) hx hb dX7_mostOf_28 (by decide) ?_
  refine lv_icmp_ne (tgt := 37) hx hb dX7_mostOf_29 (by decide) (fun h => absurd (by decide) h) (fun _ => ?_)
  refine lv_bipush (v := 100) hx hb dX7_mostOf_32 (by decide) ?_
  refine lv_goto (tgt := 38) hx hb dX7_mostOf_34 (by decide) ?_
  exact zz_iret X hr hlk Z () rfl [0, 1] [0] (by decide +kernel) rfl rfl dX7_mostOf_38

set_option maxHeartbeats 4000000 in
set_option maxRecDepth 100000 in
theorem c7_mostOf3 (l : Launch) (D : va_G) (mo : Nat) (ms : Nat) (mi : Nat) (ma : Nat) (mts : Nat) (mtz : Nat) (mtn : Nat) (mh : Nat) (mhn : Nat) (mhw : Nat) (mhz : Nat) (mhr : Nat) (mcl : Nat) (mtp : Nat) (mna : Nat) (mpi : Nat) (mca : Nat) (mwa : Nat) (mrd : Nat) (j3 : Int32) (j14 : Int32) (j15 : Int32) (j16 : Int32) (j17 : Int32) (j18 : Int32) (j19 : Int32) (j20 : Int32) (j21 : Int32) (j22 : Int32) (j23 : Int32) (j24 : Int32) (j29 : Int32) (kms : ClassId) (f : (Nat → Int32)) (af_0 : f 0 = 0) (af_1 : f 1 = 0) (af_2 : f 2 = 0) (af_3 : f 3 = 0) (af_4 : f 4 = 0) (af_5 : f 5 = 0) (af_6 : f 6 = 1) (af_7 : f 7 = 0) (af_8 : f 8 = 3) (af_9 : f 9 = 10) (af_10 : f 10 = 0) : zz_MI l yX7_mostOf wsX7_mostOf 0 0 0 0 D [.ref mo, .int 3] [(mo, .inr (7, [.ref ms, .ref mi, .ref ma, .int j3, .ref mts, .ref mtz, .ref mtn, .ref mh, .ref mhn, .ref mhw, .ref mhz, .ref mhr, .ref mcl, .ref mtp, .int j14, .int j15, .int j16, .int j17, .int j18, .int j19, .int j20, .int j21, .int j22, .int j23, .int j24, .ref mna, .ref mpi, .ref mca, .ref mwa, .int j29, .ref mrd])), (ms, .inl (kms, 3047, .inl f))] [(kms, .int)] (fun (r : Int32) (u : Unit) => r = 2) (fun (u : Unit) => [(mo, .inr (7, [.ref ms, .ref mi, .ref ma, .int j3, .ref mts, .ref mtz, .ref mtn, .ref mh, .ref mhn, .ref mhw, .ref mhz, .ref mhr, .ref mcl, .ref mtp, .int j14, .int j15, .int j16, .int j17, .int j18, .int j19, .int j20, .int j21, .int j22, .int j23, .int j24, .ref mna, .ref mpi, .ref mca, .ref mwa, .int j29, .ref mrd])), (ms, .inl (kms, 3047, .inl f))]) (fun (u : Unit) => [(kms, .int)]) := by
  intro sz
  refine Met.ofW (cc := cX7_mostOf) (maxL := 2) (ret := (some .int)) (by decide) rfl ?_
  intro p e s m args below meth c s₁ B hml hv
  obtain ⟨rfl, hC⟩ := hv
  have hx := B.exec
  have hb := B.bytes
  have hr := B.returns
  have hts := atoms_spec (ws := wsX7_mostOf) B.pre
  have hown : s.vm.findClass RX7 = some m.cls := findClass_of_methodNamed B.named
  have hlk := B.notSynchronized
  have X : CallFix p m c cX7_mostOf 2 s _ wsX7_mostOf RX7 := ⟨hx, hb, hml, hown, hts⟩
  have Z := zz_enter hC
  generalize va_A [(mo, .inr (7, [.ref ms, .ref mi, .ref ma, .int j3, .ref mts, .ref mtz, .ref mtn, .ref mh, .ref mhn, .ref mhw, .ref mhz, .ref mhr, .ref mcl, .ref mtp, .int j14, .int j15, .int j16, .int j17, .int j18, .int j19, .int j20, .int j21, .int j22, .int j23, .int j24, .ref mna, .ref mpi, .ref mca, .ref mwa, .int j29, .ref mrd])), (ms, .inl (kms, 3047, .inl f))] sz = A at Z ⊢
  have hl := lv_entry ([.ref mo, .int 3]) (n := 2) (Nat.le_of_ble_eq_true rfl)
  rw [lg_entry_eq]
  generalize (lg_sl ([.ref mo, .int 3]) ++ List.replicate (2 - (lg_sl ([.ref mo, .int 3])).length) Slot.unset).toArray = ls at hl ⊢
  have hl : lv_has ls 2 [(0, .ref mo), (1, .int 3)] := hl
  refine lv_iload_n hx hb dX7_mostOf_0 rfl (lv_at hl 1 rfl) ?_
  refine lv_if_ne (tgt := 17) hx hb dX7_mostOf_1 (by decide) (fun _ => ?_) (fun h => absurd h (by decide))
  refine lv_iload_n hx hb dX7_mostOf_17 rfl (lv_at hl 1 rfl) ?_
  refine lv_iconst (v := 1) hx hb dX7_mostOf_18 (by decide) ?_
  refine lv_icmp_ne (tgt := 27) hx hb dX7_mostOf_19 (by decide) (fun _ => ?_) (fun h => absurd h (by decide))
  refine lv_iload_n hx hb dX7_mostOf_27 rfl (lv_at hl 1 rfl) ?_
  refine lv_iconst (v := 2) hx hb dX7_mostOf_28 (by decide) ?_
  refine lv_icmp_ne (tgt := 37) hx hb dX7_mostOf_29 (by decide) (fun _ => ?_) (fun h => absurd h (by decide))
  refine lv_iconst (v := 2) hx hb dX7_mostOf_37 (by decide) ?_
  exact zz_iret X hr hlk Z () rfl [0, 1] [0] (by decide +kernel) rfl rfl dX7_mostOf_38

set_option maxHeartbeats 4000000 in
set_option maxRecDepth 100000 in
theorem c7_told (l : Launch) (D : va_G) (mo : Nat) (ms : Nat) (mi : Nat) (ma : Nat) (mts : Nat) (mtz : Nat) (mtn : Nat) (mh : Nat) (mhn : Nat) (mhw : Nat) (mhz : Nat) (mhr : Nat) (mcl : Nat) (mtp : Nat) (mna : Nat) (mpi : Nat) (mca : Nat) (mwa : Nat) (mrd : Nat) (kms : ClassId) (f : (Nat → Int32)) (stall : Int32) (what : Int32) (af_0 : f 0 = 0) (af_1 : f 1 = 0) (af_2 : f 2 = 0) (af_3 : f 3 = 0) (af_4 : f 4 = 0) (af_5 : f 5 = 0) (af_6 : f 6 = 1) (af_7 : f 7 = 0) (af_8 : f 8 = 3) (af_9 : f 9 = 10) (af_10 : f 10 = 0) : zz_MI l yX7_told wsX7_told 2 46 0 0 D [.ref mo, .int stall, .int what] [(mo, .inr (7, [.ref ms, .ref mi, .ref ma, .int 0, .ref mts, .ref mtz, .ref mtn, .ref mh, .ref mhn, .ref mhw, .ref mhz, .ref mhr, .ref mcl, .ref mtp, .int 0, .int 0, .int 0, .int 0, .int 0, .int 0, .int 0, .int 0, .int 0, .int 0, .int 0, .ref mna, .ref mpi, .ref mca, .ref mwa, .int 0, .ref mrd])), (ms, .inl (kms, 3047, .inl f))] [(kms, .int)] (fun (r : Int32) (u : Unit) => r = (-1000000001)) (fun (u : Unit) => []) (fun (u : Unit) => []) := by
  intro sz
  refine Met.ofW (cc := cX7_told) (maxL := 3) (ret := (some .int)) (by decide) rfl ?_
  intro p e s m args below meth c s₁ B hml hv
  obtain ⟨rfl, hC⟩ := hv
  have hx := B.exec
  have hb := B.bytes
  have hr := B.returns
  have hts := atoms_spec (ws := wsX7_told) B.pre
  have hown : s.vm.findClass RX7 = some m.cls := findClass_of_methodNamed B.named
  have hlk := B.notSynchronized
  have X : CallFix p m c cX7_told 3 s _ wsX7_told RX7 := ⟨hx, hb, hml, hown, hts⟩
  have Z := zz_enter hC
  generalize va_A [(mo, .inr (7, [.ref ms, .ref mi, .ref ma, .int 0, .ref mts, .ref mtz, .ref mtn, .ref mh, .ref mhn, .ref mhw, .ref mhz, .ref mhr, .ref mcl, .ref mtp, .int 0, .int 0, .int 0, .int 0, .int 0, .int 0, .int 0, .int 0, .int 0, .int 0, .int 0, .ref mna, .ref mpi, .ref mca, .ref mwa, .int 0, .ref mrd])), (ms, .inl (kms, 3047, .inl f))] sz = A at Z ⊢
  have hl := lv_entry ([.ref mo, .int stall, .int what]) (n := 3) (Nat.le_of_ble_eq_true rfl)
  rw [lg_entry_eq]
  generalize (lg_sl ([.ref mo, .int stall, .int what]) ++ List.replicate (3 - (lg_sl ([.ref mo, .int stall, .int what])).length) Slot.unset).toArray = ls at hl ⊢
  have hl : lv_has ls 3 [(0, .ref mo), (1, .int stall), (2, .int what)] := hl
  refine lv_aload_n hx hb dX7_told_0 rfl (lv_at hl 0 rfl) ?_
  refine lv_iload_n hx hb dX7_told_1 rfl (lv_at hl 1 rfl) ?_
  refine zz_ci (WC := [(mo, .inr (7, [.ref ms, .ref mi, .ref ma, .int 0, .ref mts, .ref mtz, .ref mtn, .ref mh, .ref mhn, .ref mhw, .ref mhz, .ref mhr, .ref mcl, .ref mtp, .int 0, .int 0, .int 0, .int 0, .int 0, .int 0, .int 0, .int 0, .int 0, .int 0, .int 0, .ref mna, .ref mpi, .ref mca, .ref mwa, .int 0, .ref mrd])), (ms, .inl (kms, 3047, .inl f))]) (TC := [(kms, .int)]) (WR := []) (TR := []) (k := 0) (n := 0) Z [0, 1] [] [0] [] rfl rfl (by decide +kernel) (by decide +kernel) (by decide +kernel) rfl rfl (fun Zc => va_runV (As := [.int stall]) (rest := []) X (c7_isStall l D mo ms mi ma mts mtz mtn mh mhn mhw mhz mhr mcl mtp mna mpi mca mwa mrd 0 0 0 0 0 0 0 0 0 0 0 0 0 kms f stall af_0 s.heap.size) (cwV 1 hts gX7_told_X7_isStall rfl rfl rfl ⟨rfl, zh_X7_isStall⟩ ⟨Nat.le_of_ble_eq_true rfl, Nat.le_of_ble_eq_true rfl⟩) (zz_pV (ci := 7) Zc 0 rfl rfl) rfl rfl hl.1 rfl (lv_room (Nat.le_of_ble_eq_true rfl)) dX7_told_2 ⟨Nat.le_of_ble_eq_true rfl, Nat.le_of_ble_eq_true rfl⟩) rfl rfl (fun r3 u1 H1 locs2 hw2 Z3 => ?_)
  clear Z
  have hw2 : r3 = 0 := hw2.trans (by decide)
  subst r3
  have Z4 : zz_S D A s [(mo, .inr (7, [.ref ms, .ref mi, .ref ma, .int 0, .ref mts, .ref mtz, .ref mtn, .ref mh, .ref mhn, .ref mhw, .ref mhz, .ref mhr, .ref mcl, .ref mtp, .int 0, .int 0, .int 0, .int 0, .int 0, .int 0, .int 0, .int 0, .int 0, .int 0, .int 0, .ref mna, .ref mpi, .ref mca, .ref mwa, .int 0, .ref mrd])), (ms, .inl (kms, 3047, .inl f))] [(kms, .int)] H1 locs2 := Z3
  clear Z3
  refine lv_if_ne (tgt := 11) hx hb dX7_told_5 (by decide) (fun h => absurd (by decide) h) (fun _ => ?_)
  refine lv_ldc (v := (-1000000001)) hx hb hown (hts _ (zz_m 1 rfl)) dX7_told_8 ?_
  exact zz_iret X hr hlk Z4 () rfl [] [] (by decide +kernel) rfl rfl dX7_told_10

set_option maxHeartbeats 4000000 in
set_option maxRecDepth 100000 in
theorem c7_as (l : Launch) (D : va_G) (mo : Nat) (ms : Nat) (mi : Nat) (ma : Nat) (mts : Nat) (mtz : Nat) (mtn : Nat) (mh : Nat) (mhn : Nat) (mhw : Nat) (mhz : Nat) (mhr : Nat) (mcl : Nat) (mtp : Nat) (mna : Nat) (mpi : Nat) (mca : Nat) (mwa : Nat) (mrd : Nat) (kms : ClassId) (f : (Nat → Int32)) (stall : Int32) (kind : Int32) (af_0 : f 0 = 0) (af_1 : f 1 = 0) (af_2 : f 2 = 0) (af_3 : f 3 = 0) (af_4 : f 4 = 0) (af_5 : f 5 = 0) (af_6 : f 6 = 1) (af_7 : f 7 = 0) (af_8 : f 8 = 3) (af_9 : f 9 = 10) (af_10 : f 10 = 0) : zz_MI l yX7_as wsX7_as 2 46 0 0 D [.ref mo, .int stall, .int kind] [(mo, .inr (7, [.ref ms, .ref mi, .ref ma, .int 0, .ref mts, .ref mtz, .ref mtn, .ref mh, .ref mhn, .ref mhw, .ref mhz, .ref mhr, .ref mcl, .ref mtp, .int 0, .int 0, .int 0, .int 0, .int 0, .int 0, .int 0, .int 0, .int 0, .int 0, .int 0, .ref mna, .ref mpi, .ref mca, .ref mwa, .int 0, .ref mrd])), (ms, .inl (kms, 3047, .inl f))] [(kms, .int)] (fun (r : Int32) (u : Unit) => r = (-1000000001)) (fun (u : Unit) => []) (fun (u : Unit) => []) := by
  intro sz
  refine Met.ofW (cc := cX7_as) (maxL := 3) (ret := (some .int)) (by decide) rfl ?_
  intro p e s m args below meth c s₁ B hml hv
  obtain ⟨rfl, hC⟩ := hv
  have hx := B.exec
  have hb := B.bytes
  have hr := B.returns
  have hts := atoms_spec (ws := wsX7_as) B.pre
  have hown : s.vm.findClass RX7 = some m.cls := findClass_of_methodNamed B.named
  have hlk := B.notSynchronized
  have X : CallFix p m c cX7_as 3 s _ wsX7_as RX7 := ⟨hx, hb, hml, hown, hts⟩
  have Z := zz_enter hC
  generalize va_A [(mo, .inr (7, [.ref ms, .ref mi, .ref ma, .int 0, .ref mts, .ref mtz, .ref mtn, .ref mh, .ref mhn, .ref mhw, .ref mhz, .ref mhr, .ref mcl, .ref mtp, .int 0, .int 0, .int 0, .int 0, .int 0, .int 0, .int 0, .int 0, .int 0, .int 0, .int 0, .ref mna, .ref mpi, .ref mca, .ref mwa, .int 0, .ref mrd])), (ms, .inl (kms, 3047, .inl f))] sz = A at Z ⊢
  have hl := lv_entry ([.ref mo, .int stall, .int kind]) (n := 3) (Nat.le_of_ble_eq_true rfl)
  rw [lg_entry_eq]
  generalize (lg_sl ([.ref mo, .int stall, .int kind]) ++ List.replicate (3 - (lg_sl ([.ref mo, .int stall, .int kind])).length) Slot.unset).toArray = ls at hl ⊢
  have hl : lv_has ls 3 [(0, .ref mo), (1, .int stall), (2, .int kind)] := hl
  refine lv_aload_n hx hb dX7_as_0 rfl (lv_at hl 0 rfl) ?_
  refine lv_iload_n hx hb dX7_as_1 rfl (lv_at hl 1 rfl) ?_
  refine zz_ci (WC := [(mo, .inr (7, [.ref ms, .ref mi, .ref ma, .int 0, .ref mts, .ref mtz, .ref mtn, .ref mh, .ref mhn, .ref mhw, .ref mhz, .ref mhr, .ref mcl, .ref mtp, .int 0, .int 0, .int 0, .int 0, .int 0, .int 0, .int 0, .int 0, .int 0, .int 0, .int 0, .ref mna, .ref mpi, .ref mca, .ref mwa, .int 0, .ref mrd])), (ms, .inl (kms, 3047, .inl f))]) (TC := [(kms, .int)]) (WR := []) (TR := []) (k := 0) (n := 0) Z [0, 1] [] [0] [] rfl rfl (by decide +kernel) (by decide +kernel) (by decide +kernel) rfl rfl (fun Zc => va_runV (As := [.int stall]) (rest := []) X (c7_isStall l D mo ms mi ma mts mtz mtn mh mhn mhw mhz mhr mcl mtp mna mpi mca mwa mrd 0 0 0 0 0 0 0 0 0 0 0 0 0 kms f stall af_0 s.heap.size) (cwV 1 hts gX7_as_X7_isStall rfl rfl rfl ⟨rfl, zh_X7_isStall⟩ ⟨Nat.le_of_ble_eq_true rfl, Nat.le_of_ble_eq_true rfl⟩) (zz_pV (ci := 7) Zc 0 rfl rfl) rfl rfl hl.1 rfl (lv_room (Nat.le_of_ble_eq_true rfl)) dX7_as_2 ⟨Nat.le_of_ble_eq_true rfl, Nat.le_of_ble_eq_true rfl⟩) rfl rfl (fun r3 u1 H1 locs2 hw2 Z3 => ?_)
  clear Z
  have hw2 : r3 = 0 := hw2.trans (by decide)
  subst r3
  have Z4 : zz_S D A s [(mo, .inr (7, [.ref ms, .ref mi, .ref ma, .int 0, .ref mts, .ref mtz, .ref mtn, .ref mh, .ref mhn, .ref mhw, .ref mhz, .ref mhr, .ref mcl, .ref mtp, .int 0, .int 0, .int 0, .int 0, .int 0, .int 0, .int 0, .int 0, .int 0, .int 0, .int 0, .ref mna, .ref mpi, .ref mca, .ref mwa, .int 0, .ref mrd])), (ms, .inl (kms, 3047, .inl f))] [(kms, .int)] H1 locs2 := Z3
  clear Z3
  refine lv_if_eq (tgt := 20) hx hb dX7_as_5 (by decide) (fun _ => ?_) (fun h => absurd (by decide) h)
  refine lv_ldc (v := (-1000000001)) hx hb hown (hts _ (zz_m 2 rfl)) dX7_as_20 ?_
  exact zz_iret X hr hlk Z4 () rfl [] [] (by decide +kernel) rfl rfl dX7_as_22

set_option maxHeartbeats 4000000 in
set_option maxRecDepth 100000 in
theorem c7_turns (l : Launch) (D : va_G) (mo : Nat) (ms : Nat) (mi : Nat) (ma : Nat) (mts : Nat) (mtz : Nat) (mtn : Nat) (mh : Nat) (mhn : Nat) (mhw : Nat) (mhz : Nat) (mhr : Nat) (mcl : Nat) (mtp : Nat) (mna : Nat) (mpi : Nat) (mca : Nat) (mwa : Nat) (mrd : Nat) (kms : ClassId) (f : (Nat → Int32)) (stall : Int32) (kind : Int32) (af_0 : f 0 = 0) (af_1 : f 1 = 0) (af_2 : f 2 = 0) (af_3 : f 3 = 0) (af_4 : f 4 = 0) (af_5 : f 5 = 0) (af_6 : f 6 = 1) (af_7 : f 7 = 0) (af_8 : f 8 = 3) (af_9 : f 9 = 10) (af_10 : f 10 = 0) : zz_MI l yX7_turns wsX7_turns 2 46 0 0 D [.ref mo, .int stall, .int kind] [(mo, .inr (7, [.ref ms, .ref mi, .ref ma, .int 0, .ref mts, .ref mtz, .ref mtn, .ref mh, .ref mhn, .ref mhw, .ref mhz, .ref mhr, .ref mcl, .ref mtp, .int 0, .int 0, .int 0, .int 0, .int 0, .int 0, .int 0, .int 0, .int 0, .int 0, .int 0, .ref mna, .ref mpi, .ref mca, .ref mwa, .int 0, .ref mrd])), (ms, .inl (kms, 3047, .inl f))] [(kms, .int)] (fun (r : Int32) (u : Unit) => r = (-1000000001)) (fun (u : Unit) => []) (fun (u : Unit) => []) := by
  intro sz
  refine Met.ofW (cc := cX7_turns) (maxL := 3) (ret := (some .int)) (by decide) rfl ?_
  intro p e s m args below meth c s₁ B hml hv
  obtain ⟨rfl, hC⟩ := hv
  have hx := B.exec
  have hb := B.bytes
  have hr := B.returns
  have hts := atoms_spec (ws := wsX7_turns) B.pre
  have hown : s.vm.findClass RX7 = some m.cls := findClass_of_methodNamed B.named
  have hlk := B.notSynchronized
  have X : CallFix p m c cX7_turns 3 s _ wsX7_turns RX7 := ⟨hx, hb, hml, hown, hts⟩
  have Z := zz_enter hC
  generalize va_A [(mo, .inr (7, [.ref ms, .ref mi, .ref ma, .int 0, .ref mts, .ref mtz, .ref mtn, .ref mh, .ref mhn, .ref mhw, .ref mhz, .ref mhr, .ref mcl, .ref mtp, .int 0, .int 0, .int 0, .int 0, .int 0, .int 0, .int 0, .int 0, .int 0, .int 0, .int 0, .ref mna, .ref mpi, .ref mca, .ref mwa, .int 0, .ref mrd])), (ms, .inl (kms, 3047, .inl f))] sz = A at Z ⊢
  have hl := lv_entry ([.ref mo, .int stall, .int kind]) (n := 3) (Nat.le_of_ble_eq_true rfl)
  rw [lg_entry_eq]
  generalize (lg_sl ([.ref mo, .int stall, .int kind]) ++ List.replicate (3 - (lg_sl ([.ref mo, .int stall, .int kind])).length) Slot.unset).toArray = ls at hl ⊢
  have hl : lv_has ls 3 [(0, .ref mo), (1, .int stall), (2, .int kind)] := hl
  refine lv_aload_n hx hb dX7_turns_0 rfl (lv_at hl 0 rfl) ?_
  refine lv_iload_n hx hb dX7_turns_1 rfl (lv_at hl 1 rfl) ?_
  refine zz_ci (WC := [(mo, .inr (7, [.ref ms, .ref mi, .ref ma, .int 0, .ref mts, .ref mtz, .ref mtn, .ref mh, .ref mhn, .ref mhw, .ref mhz, .ref mhr, .ref mcl, .ref mtp, .int 0, .int 0, .int 0, .int 0, .int 0, .int 0, .int 0, .int 0, .int 0, .int 0, .int 0, .ref mna, .ref mpi, .ref mca, .ref mwa, .int 0, .ref mrd])), (ms, .inl (kms, 3047, .inl f))]) (TC := [(kms, .int)]) (WR := []) (TR := []) (k := 0) (n := 0) Z [0, 1] [] [0] [] rfl rfl (by decide +kernel) (by decide +kernel) (by decide +kernel) rfl rfl (fun Zc => va_runV (As := [.int stall]) (rest := []) X (c7_isStall l D mo ms mi ma mts mtz mtn mh mhn mhw mhz mhr mcl mtp mna mpi mca mwa mrd 0 0 0 0 0 0 0 0 0 0 0 0 0 kms f stall af_0 s.heap.size) (cwV 1 hts gX7_turns_X7_isStall rfl rfl rfl ⟨rfl, zh_X7_isStall⟩ ⟨Nat.le_of_ble_eq_true rfl, Nat.le_of_ble_eq_true rfl⟩) (zz_pV (ci := 7) Zc 0 rfl rfl) rfl rfl hl.1 rfl (lv_room (Nat.le_of_ble_eq_true rfl)) dX7_turns_2 ⟨Nat.le_of_ble_eq_true rfl, Nat.le_of_ble_eq_true rfl⟩) rfl rfl (fun r3 u1 H1 locs2 hw2 Z3 => ?_)
  clear Z
  have hw2 : r3 = 0 := hw2.trans (by decide)
  subst r3
  have Z4 : zz_S D A s [(mo, .inr (7, [.ref ms, .ref mi, .ref ma, .int 0, .ref mts, .ref mtz, .ref mtn, .ref mh, .ref mhn, .ref mhw, .ref mhz, .ref mhr, .ref mcl, .ref mtp, .int 0, .int 0, .int 0, .int 0, .int 0, .int 0, .int 0, .int 0, .int 0, .int 0, .int 0, .ref mna, .ref mpi, .ref mca, .ref mwa, .int 0, .ref mrd])), (ms, .inl (kms, 3047, .inl f))] [(kms, .int)] H1 locs2 := Z3
  clear Z3
  refine lv_if_eq (tgt := 34) hx hb dX7_turns_5 (by decide) (fun _ => ?_) (fun h => absurd (by decide) h)
  refine lv_ldc (v := (-1000000001)) hx hb hown (hts _ (zz_m 2 rfl)) dX7_turns_34 ?_
  exact zz_iret X hr hlk Z4 () rfl [] [] (by decide +kernel) rfl rfl dX7_turns_36

set_option maxHeartbeats 4000000 in
set_option maxRecDepth 100000 in
theorem c7_set (l : Launch) (D : va_G) (mo : Nat) (ms : Nat) (mi : Nat) (ma : Nat) (mts : Nat) (mtz : Nat) (mtn : Nat) (mh : Nat) (mhn : Nat) (mhw : Nat) (mhz : Nat) (mhr : Nat) (mcl : Nat) (mtp : Nat) (mna : Nat) (mpi : Nat) (mca : Nat) (mwa : Nat) (mrd : Nat) (kms : ClassId) (f : (Nat → Int32)) (stall : Int32) (what : Int32) (v : Int32) (af_0 : f 0 = 0) (af_1 : f 1 = 0) (af_2 : f 2 = 0) (af_3 : f 3 = 0) (af_4 : f 4 = 0) (af_5 : f 5 = 0) (af_6 : f 6 = 1) (af_7 : f 7 = 0) (af_8 : f 8 = 3) (af_9 : f 9 = 10) (af_10 : f 10 = 0) : zz_MI l yX7_set wsX7_set 2 46 0 0 D [.ref mo, .int stall, .int what, .int v] [(mo, .inr (7, [.ref ms, .ref mi, .ref ma, .int 0, .ref mts, .ref mtz, .ref mtn, .ref mh, .ref mhn, .ref mhw, .ref mhz, .ref mhr, .ref mcl, .ref mtp, .int 0, .int 0, .int 0, .int 0, .int 0, .int 0, .int 0, .int 0, .int 0, .int 0, .int 0, .ref mna, .ref mpi, .ref mca, .ref mwa, .int 0, .ref mrd])), (ms, .inl (kms, 3047, .inl f))] [(kms, .int)] (fun (r : Int32) (u : Unit) => r = (-1000000001)) (fun (u : Unit) => []) (fun (u : Unit) => []) := by
  intro sz
  refine Met.ofW (cc := cX7_set) (maxL := 4) (ret := (some .int)) (by decide) rfl ?_
  intro p e s m args below meth c s₁ B hml hv
  obtain ⟨rfl, hC⟩ := hv
  have hx := B.exec
  have hb := B.bytes
  have hr := B.returns
  have hts := atoms_spec (ws := wsX7_set) B.pre
  have hown : s.vm.findClass RX7 = some m.cls := findClass_of_methodNamed B.named
  have hlk := B.notSynchronized
  have X : CallFix p m c cX7_set 4 s _ wsX7_set RX7 := ⟨hx, hb, hml, hown, hts⟩
  have Z := zz_enter hC
  generalize va_A [(mo, .inr (7, [.ref ms, .ref mi, .ref ma, .int 0, .ref mts, .ref mtz, .ref mtn, .ref mh, .ref mhn, .ref mhw, .ref mhz, .ref mhr, .ref mcl, .ref mtp, .int 0, .int 0, .int 0, .int 0, .int 0, .int 0, .int 0, .int 0, .int 0, .int 0, .int 0, .ref mna, .ref mpi, .ref mca, .ref mwa, .int 0, .ref mrd])), (ms, .inl (kms, 3047, .inl f))] sz = A at Z ⊢
  have hl := lv_entry ([.ref mo, .int stall, .int what, .int v]) (n := 4) (Nat.le_of_ble_eq_true rfl)
  rw [lg_entry_eq]
  generalize (lg_sl ([.ref mo, .int stall, .int what, .int v]) ++ List.replicate (4 - (lg_sl ([.ref mo, .int stall, .int what, .int v])).length) Slot.unset).toArray = ls at hl ⊢
  have hl : lv_has ls 4 [(0, .ref mo), (1, .int stall), (2, .int what), (3, .int v)] := hl
  refine lv_aload_n hx hb dX7_set_0 rfl (lv_at hl 0 rfl) ?_
  refine lv_iload_n hx hb dX7_set_1 rfl (lv_at hl 1 rfl) ?_
  refine zz_ci (WC := [(mo, .inr (7, [.ref ms, .ref mi, .ref ma, .int 0, .ref mts, .ref mtz, .ref mtn, .ref mh, .ref mhn, .ref mhw, .ref mhz, .ref mhr, .ref mcl, .ref mtp, .int 0, .int 0, .int 0, .int 0, .int 0, .int 0, .int 0, .int 0, .int 0, .int 0, .int 0, .ref mna, .ref mpi, .ref mca, .ref mwa, .int 0, .ref mrd])), (ms, .inl (kms, 3047, .inl f))]) (TC := [(kms, .int)]) (WR := []) (TR := []) (k := 0) (n := 0) Z [0, 1] [] [0] [] rfl rfl (by decide +kernel) (by decide +kernel) (by decide +kernel) rfl rfl (fun Zc => va_runV (As := [.int stall]) (rest := []) X (c7_isStall l D mo ms mi ma mts mtz mtn mh mhn mhw mhz mhr mcl mtp mna mpi mca mwa mrd 0 0 0 0 0 0 0 0 0 0 0 0 0 kms f stall af_0 s.heap.size) (cwV 1 hts gX7_set_X7_isStall rfl rfl rfl ⟨rfl, zh_X7_isStall⟩ ⟨Nat.le_of_ble_eq_true rfl, Nat.le_of_ble_eq_true rfl⟩) (zz_pV (ci := 7) Zc 0 rfl rfl) rfl rfl hl.1 rfl (lv_room (Nat.le_of_ble_eq_true rfl)) dX7_set_2 ⟨Nat.le_of_ble_eq_true rfl, Nat.le_of_ble_eq_true rfl⟩) rfl rfl (fun r3 u1 H1 locs2 hw2 Z3 => ?_)
  clear Z
  have hw2 : r3 = 0 := hw2.trans (by decide)
  subst r3
  have Z4 : zz_S D A s [(mo, .inr (7, [.ref ms, .ref mi, .ref ma, .int 0, .ref mts, .ref mtz, .ref mtn, .ref mh, .ref mhn, .ref mhw, .ref mhz, .ref mhr, .ref mcl, .ref mtp, .int 0, .int 0, .int 0, .int 0, .int 0, .int 0, .int 0, .int 0, .int 0, .int 0, .int 0, .ref mna, .ref mpi, .ref mca, .ref mwa, .int 0, .ref mrd])), (ms, .inl (kms, 3047, .inl f))] [(kms, .int)] H1 locs2 := Z3
  clear Z3
  refine lv_if_eq (tgt := 54) hx hb dX7_set_5 (by decide) (fun _ => ?_) (fun h => absurd (by decide) h)
  refine lv_ldc (v := (-1000000001)) hx hb hown (hts _ (zz_m 5 rfl)) dX7_set_54 ?_
  exact zz_iret X hr hlk Z4 () rfl [] [] (by decide +kernel) rfl rfl dX7_set_56

set_option maxHeartbeats 4000000 in
set_option maxRecDepth 100000 in
theorem c7_goods (l : Launch) (D : va_G) (mo : Nat) (ms : Nat) (mi : Nat) (ma : Nat) (mts : Nat) (mtz : Nat) (mtn : Nat) (mh : Nat) (mhn : Nat) (mhw : Nat) (mhz : Nat) (mhr : Nat) (mcl : Nat) (mtp : Nat) (mna : Nat) (mpi : Nat) (mca : Nat) (mwa : Nat) (mrd : Nat) (kms : ClassId) (f : (Nat → Int32)) (stall : Int32) (n : Int32) (af_0 : f 0 = 0) (af_1 : f 1 = 0) (af_2 : f 2 = 0) (af_3 : f 3 = 0) (af_4 : f 4 = 0) (af_5 : f 5 = 0) (af_6 : f 6 = 1) (af_7 : f 7 = 0) (af_8 : f 8 = 3) (af_9 : f 9 = 10) (af_10 : f 10 = 0) : zz_MI l yX7_goods wsX7_goods 2 46 0 0 D [.ref mo, .int stall, .int n] [(mo, .inr (7, [.ref ms, .ref mi, .ref ma, .int 0, .ref mts, .ref mtz, .ref mtn, .ref mh, .ref mhn, .ref mhw, .ref mhz, .ref mhr, .ref mcl, .ref mtp, .int 0, .int 0, .int 0, .int 0, .int 0, .int 0, .int 0, .int 0, .int 0, .int 0, .int 0, .ref mna, .ref mpi, .ref mca, .ref mwa, .int 0, .ref mrd])), (ms, .inl (kms, 3047, .inl f))] [(kms, .int)] (fun (r : Int32) (u : Unit) => r = (-1000000001)) (fun (u : Unit) => []) (fun (u : Unit) => []) := by
  intro sz
  refine Met.ofW (cc := cX7_goods) (maxL := 4) (ret := (some .int)) (by decide) rfl ?_
  intro p e s m args below meth c s₁ B hml hv
  obtain ⟨rfl, hC⟩ := hv
  have hx := B.exec
  have hb := B.bytes
  have hr := B.returns
  have hts := atoms_spec (ws := wsX7_goods) B.pre
  have hown : s.vm.findClass RX7 = some m.cls := findClass_of_methodNamed B.named
  have hlk := B.notSynchronized
  have X : CallFix p m c cX7_goods 4 s _ wsX7_goods RX7 := ⟨hx, hb, hml, hown, hts⟩
  have Z := zz_enter hC
  generalize va_A [(mo, .inr (7, [.ref ms, .ref mi, .ref ma, .int 0, .ref mts, .ref mtz, .ref mtn, .ref mh, .ref mhn, .ref mhw, .ref mhz, .ref mhr, .ref mcl, .ref mtp, .int 0, .int 0, .int 0, .int 0, .int 0, .int 0, .int 0, .int 0, .int 0, .int 0, .int 0, .ref mna, .ref mpi, .ref mca, .ref mwa, .int 0, .ref mrd])), (ms, .inl (kms, 3047, .inl f))] sz = A at Z ⊢
  have hl := lv_entry ([.ref mo, .int stall, .int n]) (n := 4) (Nat.le_of_ble_eq_true rfl)
  rw [lg_entry_eq]
  generalize (lg_sl ([.ref mo, .int stall, .int n]) ++ List.replicate (4 - (lg_sl ([.ref mo, .int stall, .int n])).length) Slot.unset).toArray = ls at hl ⊢
  have hl : lv_has ls 4 [(0, .ref mo), (1, .int stall), (2, .int n)] := hl
  refine lv_aload_n hx hb dX7_goods_0 rfl (lv_at hl 0 rfl) ?_
  refine lv_iload_n hx hb dX7_goods_1 rfl (lv_at hl 1 rfl) ?_
  refine zz_ci (WC := [(mo, .inr (7, [.ref ms, .ref mi, .ref ma, .int 0, .ref mts, .ref mtz, .ref mtn, .ref mh, .ref mhn, .ref mhw, .ref mhz, .ref mhr, .ref mcl, .ref mtp, .int 0, .int 0, .int 0, .int 0, .int 0, .int 0, .int 0, .int 0, .int 0, .int 0, .int 0, .ref mna, .ref mpi, .ref mca, .ref mwa, .int 0, .ref mrd])), (ms, .inl (kms, 3047, .inl f))]) (TC := [(kms, .int)]) (WR := []) (TR := []) (k := 0) (n := 0) Z [0, 1] [] [0] [] rfl rfl (by decide +kernel) (by decide +kernel) (by decide +kernel) rfl rfl (fun Zc => va_runV (As := [.int stall]) (rest := []) X (c7_isStall l D mo ms mi ma mts mtz mtn mh mhn mhw mhz mhr mcl mtp mna mpi mca mwa mrd 0 0 0 0 0 0 0 0 0 0 0 0 0 kms f stall af_0 s.heap.size) (cwV 1 hts gX7_goods_X7_isStall rfl rfl rfl ⟨rfl, zh_X7_isStall⟩ ⟨Nat.le_of_ble_eq_true rfl, Nat.le_of_ble_eq_true rfl⟩) (zz_pV (ci := 7) Zc 0 rfl rfl) rfl rfl hl.1 rfl (lv_room (Nat.le_of_ble_eq_true rfl)) dX7_goods_2 ⟨Nat.le_of_ble_eq_true rfl, Nat.le_of_ble_eq_true rfl⟩) rfl rfl (fun r3 u1 H1 locs2 hw2 Z3 => ?_)
  clear Z
  have hw2 : r3 = 0 := hw2.trans (by decide)
  subst r3
  have Z4 : zz_S D A s [(mo, .inr (7, [.ref ms, .ref mi, .ref ma, .int 0, .ref mts, .ref mtz, .ref mtn, .ref mh, .ref mhn, .ref mhw, .ref mhz, .ref mhr, .ref mcl, .ref mtp, .int 0, .int 0, .int 0, .int 0, .int 0, .int 0, .int 0, .int 0, .int 0, .int 0, .int 0, .ref mna, .ref mpi, .ref mca, .ref mwa, .int 0, .ref mrd])), (ms, .inl (kms, 3047, .inl f))] [(kms, .int)] H1 locs2 := Z3
  clear Z3
  refine lv_if_eq (tgt := 20) hx hb dX7_goods_5 (by decide) (fun _ => ?_) (fun h => absurd (by decide) h)
  refine lv_ldc (v := (-1000000001)) hx hb hown (hts _ (zz_m 2 rfl)) dX7_goods_20 ?_
  exact zz_iret X hr hlk Z4 () rfl [] [] (by decide +kernel) rfl rfl dX7_goods_22

set_option maxHeartbeats 4000000 in
set_option maxRecDepth 100000 in
theorem c7_shaded (l : Launch) (D : va_G) (mo : Nat) (ms : Nat) (mi : Nat) (ma : Nat) (mts : Nat) (mtz : Nat) (mtn : Nat) (mh : Nat) (mhn : Nat) (mhw : Nat) (mhz : Nat) (mhr : Nat) (mcl : Nat) (mtp : Nat) (mna : Nat) (mpi : Nat) (mca : Nat) (mwa : Nat) (mrd : Nat) (kms : ClassId) (f : (Nat → Int32)) (stall : Int32) (n : Int32) (af_0 : f 0 = 0) (af_1 : f 1 = 0) (af_2 : f 2 = 0) (af_3 : f 3 = 0) (af_4 : f 4 = 0) (af_5 : f 5 = 0) (af_6 : f 6 = 1) (af_7 : f 7 = 0) (af_8 : f 8 = 3) (af_9 : f 9 = 10) (af_10 : f 10 = 0) : zz_MI l yX7_shaded wsX7_shaded 2 46 0 0 D [.ref mo, .int stall, .int n] [(mo, .inr (7, [.ref ms, .ref mi, .ref ma, .int 0, .ref mts, .ref mtz, .ref mtn, .ref mh, .ref mhn, .ref mhw, .ref mhz, .ref mhr, .ref mcl, .ref mtp, .int 0, .int 0, .int 0, .int 0, .int 0, .int 0, .int 0, .int 0, .int 0, .int 0, .int 0, .ref mna, .ref mpi, .ref mca, .ref mwa, .int 0, .ref mrd])), (ms, .inl (kms, 3047, .inl f))] [(kms, .int)] (fun (r : Int32) (u : Unit) => r = (-1000000001)) (fun (u : Unit) => []) (fun (u : Unit) => []) := by
  intro sz
  refine Met.ofW (cc := cX7_shaded) (maxL := 7) (ret := (some .int)) (by decide) rfl ?_
  intro p e s m args below meth c s₁ B hml hv
  obtain ⟨rfl, hC⟩ := hv
  have hx := B.exec
  have hb := B.bytes
  have hr := B.returns
  have hts := atoms_spec (ws := wsX7_shaded) B.pre
  have hown : s.vm.findClass RX7 = some m.cls := findClass_of_methodNamed B.named
  have hlk := B.notSynchronized
  have X : CallFix p m c cX7_shaded 7 s _ wsX7_shaded RX7 := ⟨hx, hb, hml, hown, hts⟩
  have Z := zz_enter hC
  generalize va_A [(mo, .inr (7, [.ref ms, .ref mi, .ref ma, .int 0, .ref mts, .ref mtz, .ref mtn, .ref mh, .ref mhn, .ref mhw, .ref mhz, .ref mhr, .ref mcl, .ref mtp, .int 0, .int 0, .int 0, .int 0, .int 0, .int 0, .int 0, .int 0, .int 0, .int 0, .int 0, .ref mna, .ref mpi, .ref mca, .ref mwa, .int 0, .ref mrd])), (ms, .inl (kms, 3047, .inl f))] sz = A at Z ⊢
  have hl := lv_entry ([.ref mo, .int stall, .int n]) (n := 7) (Nat.le_of_ble_eq_true rfl)
  rw [lg_entry_eq]
  generalize (lg_sl ([.ref mo, .int stall, .int n]) ++ List.replicate (7 - (lg_sl ([.ref mo, .int stall, .int n])).length) Slot.unset).toArray = ls at hl ⊢
  have hl : lv_has ls 7 [(0, .ref mo), (1, .int stall), (2, .int n)] := hl
  refine lv_aload_n hx hb dX7_shaded_0 rfl (lv_at hl 0 rfl) ?_
  refine lv_iload_n hx hb dX7_shaded_1 rfl (lv_at hl 1 rfl) ?_
  refine zz_ci (WC := [(mo, .inr (7, [.ref ms, .ref mi, .ref ma, .int 0, .ref mts, .ref mtz, .ref mtn, .ref mh, .ref mhn, .ref mhw, .ref mhz, .ref mhr, .ref mcl, .ref mtp, .int 0, .int 0, .int 0, .int 0, .int 0, .int 0, .int 0, .int 0, .int 0, .int 0, .int 0, .ref mna, .ref mpi, .ref mca, .ref mwa, .int 0, .ref mrd])), (ms, .inl (kms, 3047, .inl f))]) (TC := [(kms, .int)]) (WR := []) (TR := []) (k := 0) (n := 0) Z [0, 1] [] [0] [] rfl rfl (by decide +kernel) (by decide +kernel) (by decide +kernel) rfl rfl (fun Zc => va_runV (As := [.int stall]) (rest := []) X (c7_isStall l D mo ms mi ma mts mtz mtn mh mhn mhw mhz mhr mcl mtp mna mpi mca mwa mrd 0 0 0 0 0 0 0 0 0 0 0 0 0 kms f stall af_0 s.heap.size) (cwV 1 hts gX7_shaded_X7_isStall rfl rfl rfl ⟨rfl, zh_X7_isStall⟩ ⟨Nat.le_of_ble_eq_true rfl, Nat.le_of_ble_eq_true rfl⟩) (zz_pV (ci := 7) Zc 0 rfl rfl) rfl rfl hl.1 rfl (lv_room (Nat.le_of_ble_eq_true rfl)) dX7_shaded_2 ⟨Nat.le_of_ble_eq_true rfl, Nat.le_of_ble_eq_true rfl⟩) rfl rfl (fun r3 u1 H1 locs2 hw2 Z3 => ?_)
  clear Z
  have hw2 : r3 = 0 := hw2.trans (by decide)
  subst r3
  have Z4 : zz_S D A s [(mo, .inr (7, [.ref ms, .ref mi, .ref ma, .int 0, .ref mts, .ref mtz, .ref mtn, .ref mh, .ref mhn, .ref mhw, .ref mhz, .ref mhr, .ref mcl, .ref mtp, .int 0, .int 0, .int 0, .int 0, .int 0, .int 0, .int 0, .int 0, .int 0, .int 0, .int 0, .ref mna, .ref mpi, .ref mca, .ref mwa, .int 0, .ref mrd])), (ms, .inl (kms, 3047, .inl f))] [(kms, .int)] H1 locs2 := Z3
  clear Z3
  refine lv_if_eq (tgt := 20) hx hb dX7_shaded_5 (by decide) (fun _ => ?_) (fun h => absurd (by decide) h)
  refine lv_ldc (v := (-1000000001)) hx hb hown (hts _ (zz_m 2 rfl)) dX7_shaded_20 ?_
  exact zz_iret X hr hlk Z4 () rfl [] [] (by decide +kernel) rfl rfl dX7_shaded_22

set_option maxHeartbeats 4000000 in
set_option maxRecDepth 100000 in
theorem c7_fine (l : Launch) (D : va_G) (mo : Nat) (ms : Nat) (mi : Nat) (ma : Nat) (mts : Nat) (mtz : Nat) (mtn : Nat) (mh : Nat) (mhn : Nat) (mhw : Nat) (mhz : Nat) (mhr : Nat) (mcl : Nat) (mtp : Nat) (mna : Nat) (mpi : Nat) (mca : Nat) (mwa : Nat) (mrd : Nat) (kms : ClassId) (f : (Nat → Int32)) (stall : Int32) (af_0 : f 0 = 0) (af_1 : f 1 = 0) (af_2 : f 2 = 0) (af_3 : f 3 = 0) (af_4 : f 4 = 0) (af_5 : f 5 = 0) (af_6 : f 6 = 1) (af_7 : f 7 = 0) (af_8 : f 8 = 3) (af_9 : f 9 = 10) (af_10 : f 10 = 0) : zz_MI l yX7_fine wsX7_fine 2 46 0 0 D [.ref mo, .int stall] [(mo, .inr (7, [.ref ms, .ref mi, .ref ma, .int 0, .ref mts, .ref mtz, .ref mtn, .ref mh, .ref mhn, .ref mhw, .ref mhz, .ref mhr, .ref mcl, .ref mtp, .int 0, .int 0, .int 0, .int 0, .int 0, .int 0, .int 0, .int 0, .int 0, .int 0, .int 0, .ref mna, .ref mpi, .ref mca, .ref mwa, .int 0, .ref mrd])), (ms, .inl (kms, 3047, .inl f))] [(kms, .int)] (fun (r : Int32) (u : Unit) => r = (-1000000001)) (fun (u : Unit) => []) (fun (u : Unit) => []) := by
  intro sz
  refine Met.ofW (cc := cX7_fine) (maxL := 3) (ret := (some .int)) (by decide) rfl ?_
  intro p e s m args below meth c s₁ B hml hv
  obtain ⟨rfl, hC⟩ := hv
  have hx := B.exec
  have hb := B.bytes
  have hr := B.returns
  have hts := atoms_spec (ws := wsX7_fine) B.pre
  have hown : s.vm.findClass RX7 = some m.cls := findClass_of_methodNamed B.named
  have hlk := B.notSynchronized
  have X : CallFix p m c cX7_fine 3 s _ wsX7_fine RX7 := ⟨hx, hb, hml, hown, hts⟩
  have Z := zz_enter hC
  generalize va_A [(mo, .inr (7, [.ref ms, .ref mi, .ref ma, .int 0, .ref mts, .ref mtz, .ref mtn, .ref mh, .ref mhn, .ref mhw, .ref mhz, .ref mhr, .ref mcl, .ref mtp, .int 0, .int 0, .int 0, .int 0, .int 0, .int 0, .int 0, .int 0, .int 0, .int 0, .int 0, .ref mna, .ref mpi, .ref mca, .ref mwa, .int 0, .ref mrd])), (ms, .inl (kms, 3047, .inl f))] sz = A at Z ⊢
  have hl := lv_entry ([.ref mo, .int stall]) (n := 3) (Nat.le_of_ble_eq_true rfl)
  rw [lg_entry_eq]
  generalize (lg_sl ([.ref mo, .int stall]) ++ List.replicate (3 - (lg_sl ([.ref mo, .int stall])).length) Slot.unset).toArray = ls at hl ⊢
  have hl : lv_has ls 3 [(0, .ref mo), (1, .int stall)] := hl
  refine lv_aload_n hx hb dX7_fine_0 rfl (lv_at hl 0 rfl) ?_
  refine lv_iload_n hx hb dX7_fine_1 rfl (lv_at hl 1 rfl) ?_
  refine zz_ci (WC := [(mo, .inr (7, [.ref ms, .ref mi, .ref ma, .int 0, .ref mts, .ref mtz, .ref mtn, .ref mh, .ref mhn, .ref mhw, .ref mhz, .ref mhr, .ref mcl, .ref mtp, .int 0, .int 0, .int 0, .int 0, .int 0, .int 0, .int 0, .int 0, .int 0, .int 0, .int 0, .ref mna, .ref mpi, .ref mca, .ref mwa, .int 0, .ref mrd])), (ms, .inl (kms, 3047, .inl f))]) (TC := [(kms, .int)]) (WR := []) (TR := []) (k := 0) (n := 0) Z [0, 1] [] [0] [] rfl rfl (by decide +kernel) (by decide +kernel) (by decide +kernel) rfl rfl (fun Zc => va_runV (As := [.int stall]) (rest := []) X (c7_isStall l D mo ms mi ma mts mtz mtn mh mhn mhw mhz mhr mcl mtp mna mpi mca mwa mrd 0 0 0 0 0 0 0 0 0 0 0 0 0 kms f stall af_0 s.heap.size) (cwV 1 hts gX7_fine_X7_isStall rfl rfl rfl ⟨rfl, zh_X7_isStall⟩ ⟨Nat.le_of_ble_eq_true rfl, Nat.le_of_ble_eq_true rfl⟩) (zz_pV (ci := 7) Zc 0 rfl rfl) rfl rfl hl.1 rfl (lv_room (Nat.le_of_ble_eq_true rfl)) dX7_fine_2 ⟨Nat.le_of_ble_eq_true rfl, Nat.le_of_ble_eq_true rfl⟩) rfl rfl (fun r3 u1 H1 locs2 hw2 Z3 => ?_)
  clear Z
  have hw2 : r3 = 0 := hw2.trans (by decide)
  subst r3
  have Z4 : zz_S D A s [(mo, .inr (7, [.ref ms, .ref mi, .ref ma, .int 0, .ref mts, .ref mtz, .ref mtn, .ref mh, .ref mhn, .ref mhw, .ref mhz, .ref mhr, .ref mcl, .ref mtp, .int 0, .int 0, .int 0, .int 0, .int 0, .int 0, .int 0, .int 0, .int 0, .int 0, .int 0, .ref mna, .ref mpi, .ref mca, .ref mwa, .int 0, .ref mrd])), (ms, .inl (kms, 3047, .inl f))] [(kms, .int)] H1 locs2 := Z3
  clear Z3
  refine lv_if_ne (tgt := 11) hx hb dX7_fine_5 (by decide) (fun h => absurd (by decide) h) (fun _ => ?_)
  refine lv_ldc (v := (-1000000001)) hx hb hown (hts _ (zz_m 1 rfl)) dX7_fine_8 ?_
  exact zz_iret X hr hlk Z4 () rfl [] [] (by decide +kernel) rfl rfl dX7_fine_10

set_option maxHeartbeats 4000000 in
set_option maxRecDepth 100000 in
theorem c7_seed (l : Launch) (D : va_G) (mo : Nat) (ms : Nat) (mi : Nat) (ma : Nat) (mts : Nat) (mtz : Nat) (mtn : Nat) (mh : Nat) (mhn : Nat) (mhw : Nat) (mhz : Nat) (mhr : Nat) (mcl : Nat) (mtp : Nat) (mna : Nat) (mpi : Nat) (mca : Nat) (mwa : Nat) (mrd : Nat) (kms : ClassId) (f : (Nat → Int32)) (v : Int32) (af_0 : f 0 = 0) (af_1 : f 1 = 0) (af_2 : f 2 = 0) (af_3 : f 3 = 0) (af_4 : f 4 = 0) (af_5 : f 5 = 0) (af_6 : f 6 = 1) (af_7 : f 7 = 0) (af_8 : f 8 = 3) (af_9 : f 9 = 10) (af_10 : f 10 = 0) : zz_MI l yX7_seed wsX7_seed 1 23 0 0 D [.ref mo, .int v] [(mo, .inr (7, [.ref ms, .ref mi, .ref ma, .int 0, .ref mts, .ref mtz, .ref mtn, .ref mh, .ref mhn, .ref mhw, .ref mhz, .ref mhr, .ref mcl, .ref mtp, .int 0, .int 0, .int 0, .int 0, .int 0, .int 0, .int 0, .int 0, .int 0, .int 0, .int 0, .ref mna, .ref mpi, .ref mca, .ref mwa, .int 0, .ref mrd])), (ms, .inl (kms, 3047, .inl f))] [(kms, .int)] (fun (r : Int32) (u : Unit) => r = 1) (fun (u : Unit) => []) (fun (u : Unit) => []) := by
  intro sz
  refine Met.ofW (cc := cX7_seed) (maxL := 2) (ret := (some .int)) (by decide) rfl ?_
  intro p e s m args below meth c s₁ B hml hv
  obtain ⟨rfl, hC⟩ := hv
  have hx := B.exec
  have hb := B.bytes
  have hr := B.returns
  have hts := atoms_spec (ws := wsX7_seed) B.pre
  have hown : s.vm.findClass RX7 = some m.cls := findClass_of_methodNamed B.named
  have hlk := B.notSynchronized
  have X : CallFix p m c cX7_seed 2 s _ wsX7_seed RX7 := ⟨hx, hb, hml, hown, hts⟩
  have Z := zz_enter hC
  generalize va_A [(mo, .inr (7, [.ref ms, .ref mi, .ref ma, .int 0, .ref mts, .ref mtz, .ref mtn, .ref mh, .ref mhn, .ref mhw, .ref mhz, .ref mhr, .ref mcl, .ref mtp, .int 0, .int 0, .int 0, .int 0, .int 0, .int 0, .int 0, .int 0, .int 0, .int 0, .int 0, .ref mna, .ref mpi, .ref mca, .ref mwa, .int 0, .ref mrd])), (ms, .inl (kms, 3047, .inl f))] sz = A at Z ⊢
  have hl := lv_entry ([.ref mo, .int v]) (n := 2) (Nat.le_of_ble_eq_true rfl)
  rw [lg_entry_eq]
  generalize (lg_sl ([.ref mo, .int v]) ++ List.replicate (2 - (lg_sl ([.ref mo, .int v])).length) Slot.unset).toArray = ls at hl ⊢
  have hl : lv_has ls 2 [(0, .ref mo), (1, .int v)] := hl
  refine lv_aload_n hx hb dX7_seed_0 rfl (lv_at hl 0 rfl) ?_
  refine lv_bipush (v := 6) hx hb dX7_seed_1 (by decide) ?_
  refine lv_iload_n hx hb dX7_seed_3 rfl (lv_at hl 1 rfl) ?_
  refine zz_ci (WC := [(mo, .inr (7, [.ref ms, .ref mi, .ref ma, .int 0, .ref mts, .ref mtz, .ref mtn, .ref mh, .ref mhn, .ref mhw, .ref mhz, .ref mhr, .ref mcl, .ref mtp, .int 0, .int 0, .int 0, .int 0, .int 0, .int 0, .int 0, .int 0, .int 0, .int 0, .int 0, .ref mna, .ref mpi, .ref mca, .ref mwa, .int 0, .ref mrd])), (ms, .inl (kms, 3047, .inl f))]) (TC := [(kms, .int)]) (WR := []) (TR := []) (k := 0) (n := 0) Z [0, 1] [] [0] [] rfl rfl (by decide +kernel) (by decide +kernel) (by decide +kernel) rfl rfl (fun Zc => va_runV (As := [.int 6, .int v]) (rest := []) X (c7_becomes6 l D mo ms mi ma mts mtz mtn mh mhn mhw mhz mhr mcl mtp mna mpi mca mwa mrd 0 0 0 0 0 0 0 0 0 0 0 0 0 kms f 0 0 0 0 0 0 1 0 3 10 0 v af_0 af_1 af_2 af_3 af_4 af_5 af_6 af_7 af_8 af_9 af_10 s.heap.size) (cwV 2 hts gX7_seed_X7_becomes rfl rfl rfl ⟨rfl, zh_X7_becomes⟩ ⟨Nat.le_of_ble_eq_true rfl, Nat.le_of_ble_eq_true rfl⟩) (zz_pV (ci := 7) Zc 0 rfl rfl) rfl rfl hl.1 rfl (lv_room (Nat.le_of_ble_eq_true rfl)) dX7_seed_4 ⟨Nat.le_of_ble_eq_true rfl, Nat.le_of_ble_eq_true rfl⟩) rfl rfl (fun r3 u1 H1 locs2 hw2 Z3 => ?_)
  clear Z
  obtain ⟨f94, rfl⟩ : ∃ z, z = u1 := ⟨_, rfl⟩
  try dsimp only at hw2 Z3
  obtain ⟨⟨p5, p6, p7, p8, p9, p10, p11, p12, p13, p14, p15⟩, hx16⟩ := hw2
  have hx16 : r3 = 1 := hx16.trans (by decide)
  subst r3
  have Z4 : zz_S D A s [(mo, .inr (7, [.ref ms, .ref mi, .ref ma, .int 0, .ref mts, .ref mtz, .ref mtn, .ref mh, .ref mhn, .ref mhw, .ref mhz, .ref mhr, .ref mcl, .ref mtp, .int 0, .int 0, .int 0, .int 0, .int 0, .int 0, .int 0, .int 0, .int 0, .int 0, .int 0, .ref mna, .ref mpi, .ref mca, .ref mwa, .int 0, .ref mrd])), (ms, .inl (kms, 3047, .inl f94))] [(kms, .int)] H1 locs2 := Z3
  clear Z3
  exact zz_iret X hr hlk Z4 () rfl [] [] (by decide +kernel) rfl rfl dX7_seed_7

set_option maxHeartbeats 4000000 in
set_option maxRecDepth 100000 in
theorem c7_textTold (l : Launch) (D : va_G) (mo : Nat) (ms : Nat) (mi : Nat) (ma : Nat) (mts : Nat) (mtz : Nat) (mtn : Nat) (mh : Nat) (mhn : Nat) (mhw : Nat) (mhz : Nat) (mhr : Nat) (mcl : Nat) (mtp : Nat) (mna : Nat) (mpi : Nat) (mca : Nat) (mwa : Nat) (mrd : Nat) (kms : ClassId) (f : (Nat → Int32)) (text : Int32) (what : Int32) (af_0 : f 0 = 0) (af_1 : f 1 = 0) (af_2 : f 2 = 0) (af_3 : f 3 = 0) (af_4 : f 4 = 0) (af_5 : f 5 = 0) (af_6 : f 6 = 1) (af_7 : f 7 = 0) (af_8 : f 8 = 3) (af_9 : f 9 = 10) (af_10 : f 10 = 0) : zz_MI l yX7_textTold wsX7_textTold 2 46 0 0 D [.ref mo, .int text, .int what] [(mo, .inr (7, [.ref ms, .ref mi, .ref ma, .int 0, .ref mts, .ref mtz, .ref mtn, .ref mh, .ref mhn, .ref mhw, .ref mhz, .ref mhr, .ref mcl, .ref mtp, .int 0, .int 0, .int 0, .int 0, .int 0, .int 0, .int 0, .int 0, .int 0, .int 0, .int 0, .ref mna, .ref mpi, .ref mca, .ref mwa, .int 0, .ref mrd])), (ms, .inl (kms, 3047, .inl f))] [(kms, .int)] (fun (r : Int32) (u : Unit) => r = (-1000000001)) (fun (u : Unit) => []) (fun (u : Unit) => []) := by
  intro sz
  refine Met.ofW (cc := cX7_textTold) (maxL := 3) (ret := (some .int)) (by decide) rfl ?_
  intro p e s m args below meth c s₁ B hml hv
  obtain ⟨rfl, hC⟩ := hv
  have hx := B.exec
  have hb := B.bytes
  have hr := B.returns
  have hts := atoms_spec (ws := wsX7_textTold) B.pre
  have hown : s.vm.findClass RX7 = some m.cls := findClass_of_methodNamed B.named
  have hlk := B.notSynchronized
  have X : CallFix p m c cX7_textTold 3 s _ wsX7_textTold RX7 := ⟨hx, hb, hml, hown, hts⟩
  have Z := zz_enter hC
  generalize va_A [(mo, .inr (7, [.ref ms, .ref mi, .ref ma, .int 0, .ref mts, .ref mtz, .ref mtn, .ref mh, .ref mhn, .ref mhw, .ref mhz, .ref mhr, .ref mcl, .ref mtp, .int 0, .int 0, .int 0, .int 0, .int 0, .int 0, .int 0, .int 0, .int 0, .int 0, .int 0, .ref mna, .ref mpi, .ref mca, .ref mwa, .int 0, .ref mrd])), (ms, .inl (kms, 3047, .inl f))] sz = A at Z ⊢
  have hl := lv_entry ([.ref mo, .int text, .int what]) (n := 3) (Nat.le_of_ble_eq_true rfl)
  rw [lg_entry_eq]
  generalize (lg_sl ([.ref mo, .int text, .int what]) ++ List.replicate (3 - (lg_sl ([.ref mo, .int text, .int what])).length) Slot.unset).toArray = ls at hl ⊢
  have hl : lv_has ls 3 [(0, .ref mo), (1, .int text), (2, .int what)] := hl
  refine lv_aload_n hx hb dX7_textTold_0 rfl (lv_at hl 0 rfl) ?_
  refine lv_iload_n hx hb dX7_textTold_1 rfl (lv_at hl 1 rfl) ?_
  refine zz_ci (WC := [(mo, .inr (7, [.ref ms, .ref mi, .ref ma, .int 0, .ref mts, .ref mtz, .ref mtn, .ref mh, .ref mhn, .ref mhw, .ref mhz, .ref mhr, .ref mcl, .ref mtp, .int 0, .int 0, .int 0, .int 0, .int 0, .int 0, .int 0, .int 0, .int 0, .int 0, .int 0, .ref mna, .ref mpi, .ref mca, .ref mwa, .int 0, .ref mrd])), (ms, .inl (kms, 3047, .inl f))]) (TC := [(kms, .int)]) (WR := []) (TR := []) (k := 0) (n := 0) Z [0, 1] [] [0] [] rfl rfl (by decide +kernel) (by decide +kernel) (by decide +kernel) rfl rfl (fun Zc => va_runV (As := [.int text]) (rest := []) X (c7_isText l D mo ms mi ma mts mtz mtn mh mhn mhw mhz mhr mcl mtp mna mpi mca mwa mrd 0 0 0 0 0 0 0 0 0 0 0 0 0 kms f text af_1 s.heap.size) (cwV 1 hts gX7_textTold_X7_isText rfl rfl rfl ⟨rfl, zh_X7_isText⟩ ⟨Nat.le_of_ble_eq_true rfl, Nat.le_of_ble_eq_true rfl⟩) (zz_pV (ci := 7) Zc 0 rfl rfl) rfl rfl hl.1 rfl (lv_room (Nat.le_of_ble_eq_true rfl)) dX7_textTold_2 ⟨Nat.le_of_ble_eq_true rfl, Nat.le_of_ble_eq_true rfl⟩) rfl rfl (fun r3 u1 H1 locs2 hw2 Z3 => ?_)
  clear Z
  have hw2 : r3 = 0 := hw2.trans (by decide)
  subst r3
  have Z4 : zz_S D A s [(mo, .inr (7, [.ref ms, .ref mi, .ref ma, .int 0, .ref mts, .ref mtz, .ref mtn, .ref mh, .ref mhn, .ref mhw, .ref mhz, .ref mhr, .ref mcl, .ref mtp, .int 0, .int 0, .int 0, .int 0, .int 0, .int 0, .int 0, .int 0, .int 0, .int 0, .int 0, .ref mna, .ref mpi, .ref mca, .ref mwa, .int 0, .ref mrd])), (ms, .inl (kms, 3047, .inl f))] [(kms, .int)] H1 locs2 := Z3
  clear Z3
  refine lv_if_eq (tgt := 18) hx hb dX7_textTold_5 (by decide) (fun _ => ?_) (fun h => absurd (by decide) h)
  refine lv_ldc (v := (-1000000001)) hx hb hown (hts _ (zz_m 1 rfl)) dX7_textTold_18 ?_
  exact zz_iret X hr hlk Z4 () rfl [] [] (by decide +kernel) rfl rfl dX7_textTold_20

set_option maxHeartbeats 4000000 in
set_option maxRecDepth 100000 in
theorem c7_back (l : Launch) (D : va_G) (mo : Nat) (ms : Nat) (mi : Nat) (ma : Nat) (mts : Nat) (mtz : Nat) (mtn : Nat) (mh : Nat) (mhn : Nat) (mhw : Nat) (mhz : Nat) (mhr : Nat) (mcl : Nat) (mtp : Nat) (mna : Nat) (mpi : Nat) (mca : Nat) (mwa : Nat) (mrd : Nat)  : zz_MI l yX7_back wsX7_back 0 0 0 0 D [.ref mo] [(mo, .inr (7, [.ref ms, .ref mi, .ref ma, .int 0, .ref mts, .ref mtz, .ref mtn, .ref mh, .ref mhn, .ref mhw, .ref mhz, .ref mhr, .ref mcl, .ref mtp, .int 0, .int 0, .int 0, .int 0, .int 0, .int 0, .int 0, .int 0, .int 0, .int 0, .int 0, .ref mna, .ref mpi, .ref mca, .ref mwa, .int 0, .ref mrd]))] [] (fun (r : Int32) (u : Unit) => r = (-1000000002)) (fun (u : Unit) => []) (fun (u : Unit) => []) := by
  intro sz
  refine Met.ofW (cc := cX7_back) (maxL := 1) (ret := (some .int)) (by decide) rfl ?_
  intro p e s m args below meth c s₁ B hml hv
  obtain ⟨rfl, hC⟩ := hv
  have hx := B.exec
  have hb := B.bytes
  have hr := B.returns
  have hts := atoms_spec (ws := wsX7_back) B.pre
  have hown : s.vm.findClass RX7 = some m.cls := findClass_of_methodNamed B.named
  have hlk := B.notSynchronized
  have X : CallFix p m c cX7_back 1 s _ wsX7_back RX7 := ⟨hx, hb, hml, hown, hts⟩
  have Z := zz_enter hC
  generalize va_A [(mo, .inr (7, [.ref ms, .ref mi, .ref ma, .int 0, .ref mts, .ref mtz, .ref mtn, .ref mh, .ref mhn, .ref mhw, .ref mhz, .ref mhr, .ref mcl, .ref mtp, .int 0, .int 0, .int 0, .int 0, .int 0, .int 0, .int 0, .int 0, .int 0, .int 0, .int 0, .ref mna, .ref mpi, .ref mca, .ref mwa, .int 0, .ref mrd]))] sz = A at Z ⊢
  have hl := lv_entry ([.ref mo]) (n := 1) (Nat.le_of_ble_eq_true rfl)
  rw [lg_entry_eq]
  generalize (lg_sl ([.ref mo]) ++ List.replicate (1 - (lg_sl ([.ref mo])).length) Slot.unset).toArray = ls at hl ⊢
  have hl : lv_has ls 1 [(0, .ref mo)] := hl
  refine lv_aload_n hx hb dX7_back_0 rfl (lv_at hl 0 rfl) ?_
  refine zz_get X Z 0 rfl rfl (fun w h => List.mem_cons_of_mem _ (List.mem_append_right _ h)) 3 rfl (zz_m 1 rfl) rfl dX7_back_1 ?_
  refine lv_if_ne (tgt := 11) hx hb dX7_back_4 (by decide) (fun h => absurd (by decide) h) (fun _ => ?_)
  refine lv_ldcw (v := (-1000000002)) hx hb hown (hts _ (zz_m 2 rfl)) dX7_back_7 ?_
  exact zz_iret X hr hlk Z () rfl [] [] (by decide +kernel) rfl rfl dX7_back_10

set_option maxHeartbeats 4000000 in
set_option maxRecDepth 100000 in
theorem c7_tell (l : Launch) (D : va_G) (mo : Nat) (ms : Nat) (mi : Nat) (ma : Nat) (mts : Nat) (mtz : Nat) (mtn : Nat) (mh : Nat) (mhn : Nat) (mhw : Nat) (mhz : Nat) (mhr : Nat) (mcl : Nat) (mtp : Nat) (mna : Nat) (mpi : Nat) (mca : Nat) (mwa : Nat) (mrd : Nat) (k_mwa : ClassId) (wf : (Nat → Int32)) (v : Int32)  : zz_MI l yX7_tell wsX7_tell 0 0 0 0 D [.ref mo, .int v] [(mo, .inr (7, [.ref ms, .ref mi, .ref ma, .int 0, .ref mts, .ref mtz, .ref mtn, .ref mh, .ref mhn, .ref mhw, .ref mhz, .ref mhr, .ref mcl, .ref mtp, .int 0, .int 0, .int 0, .int 0, .int 0, .int 0, .int 0, .int 0, .int 0, .int 0, .int 0, .ref mna, .ref mpi, .ref mca, .ref mwa, .int 0, .ref mrd])), (mwa, .inl (k_mwa, 60, .inl wf))] [(k_mwa, .int)] (fun (r : Int32) (u : Unit) => r = 1) (fun (u : Unit) => []) (fun (u : Unit) => []) := by
  intro sz
  refine Met.ofW (cc := cX7_tell) (maxL := 2) (ret := (some .int)) (by decide) rfl ?_
  intro p e s m args below meth c s₁ B hml hv
  obtain ⟨rfl, hC⟩ := hv
  have hx := B.exec
  have hb := B.bytes
  have hr := B.returns
  have hts := atoms_spec (ws := wsX7_tell) B.pre
  have hown : s.vm.findClass RX7 = some m.cls := findClass_of_methodNamed B.named
  have hlk := B.notSynchronized
  have X : CallFix p m c cX7_tell 2 s _ wsX7_tell RX7 := ⟨hx, hb, hml, hown, hts⟩
  have Z := zz_enter hC
  generalize va_A [(mo, .inr (7, [.ref ms, .ref mi, .ref ma, .int 0, .ref mts, .ref mtz, .ref mtn, .ref mh, .ref mhn, .ref mhw, .ref mhz, .ref mhr, .ref mcl, .ref mtp, .int 0, .int 0, .int 0, .int 0, .int 0, .int 0, .int 0, .int 0, .int 0, .int 0, .int 0, .ref mna, .ref mpi, .ref mca, .ref mwa, .int 0, .ref mrd])), (mwa, .inl (k_mwa, 60, .inl wf))] sz = A at Z ⊢
  have hl := lv_entry ([.ref mo, .int v]) (n := 2) (Nat.le_of_ble_eq_true rfl)
  rw [lg_entry_eq]
  generalize (lg_sl ([.ref mo, .int v]) ++ List.replicate (2 - (lg_sl ([.ref mo, .int v])).length) Slot.unset).toArray = ls at hl ⊢
  have hl : lv_has ls 2 [(0, .ref mo), (1, .int v)] := hl
  refine lv_aload_n hx hb dX7_tell_0 rfl (lv_at hl 0 rfl) ?_
  refine zz_get X Z 0 rfl rfl (fun w h => List.mem_cons_of_mem _ (List.mem_append_right _ h)) 29 rfl (zz_m 1 rfl) rfl dX7_tell_1 ?_
  refine lv_bipush (v := 60) hx hb dX7_tell_4 (by decide) ?_
  refine lv_icmp_ne (tgt := 12) hx hb dX7_tell_6 (by decide) (fun _ => ?_) (fun h => absurd h (by decide))
  refine lv_aload_n hx hb dX7_tell_12 rfl (lv_at hl 0 rfl) ?_
  refine zz_get X Z 0 rfl rfl (fun w h => List.mem_cons_of_mem _ (List.mem_append_right _ h)) 28 rfl (zz_m 3 rfl) rfl dX7_tell_13 ?_
  refine lv_aload_n hx hb dX7_tell_16 rfl (lv_at hl 0 rfl) ?_
  refine zz_get X Z 0 rfl rfl (fun w h => List.mem_cons_of_mem _ (List.mem_append_right _ h)) 29 rfl (zz_m 1 rfl) rfl dX7_tell_17 ?_
  refine lv_iload_n hx hb dX7_tell_20 rfl (lv_at hl 1 rfl) ?_
  refine zz_istN (WS' := fun f1 => [(mo, .inr (7, [.ref ms, .ref mi, .ref ma, .int 0, .ref mts, .ref mtz, .ref mtn, .ref mh, .ref mhn, .ref mhw, .ref mhz, .ref mhr, .ref mcl, .ref mtp, .int 0, .int 0, .int 0, .int 0, .int 0, .int 0, .int 0, .int 0, .int 0, .int 0, .int 0, .ref mna, .ref mpi, .ref mca, .ref mwa, .int 0, .ref mrd])), (mwa, .inl (k_mwa, 60, .inl f1))]) X Z 1 0 rfl rfl (zz_in 0 60 rfl) dX7_tell_21 (fun _ => rfl) (fun f1 ef2 H1 locs2 Z3 => ?_)
  clear Z
  refine lv_aload_n hx hb dX7_tell_22 rfl (lv_at hl 0 rfl) ?_
  refine lv_dup hx hb dX7_tell_23 rfl ?_
  refine zz_get X Z3 0 rfl rfl (fun w h => List.mem_cons_of_mem _ (List.mem_append_right _ h)) 29 rfl (zz_m 1 rfl) rfl dX7_tell_24 ?_
  refine lv_iconst (v := 1) hx hb dX7_tell_27 (by decide) ?_
  refine lv_iadd hx hb dX7_tell_28 ?_
  refine zz_v (v := 1) (by decide) ?_
  refine zz_put (WS' := [(mo, .inr (7, [.ref ms, .ref mi, .ref ma, .int 0, .ref mts, .ref mtz, .ref mtn, .ref mh, .ref mhn, .ref mhw, .ref mhz, .ref mhr, .ref mcl, .ref mtp, .int 0, .int 0, .int 0, .int 0, .int 0, .int 0, .int 0, .int 0, .int 0, .int 0, .int 0, .ref mna, .ref mpi, .ref mca, .ref mwa, .int 1, .ref mrd])), (mwa, .inl (k_mwa, 60, .inl f1))]) X Z3 0 rfl rfl (fun w h => List.mem_cons_of_mem _ (List.mem_append_right _ h)) tyX7 tyX7_ok nmX7 29 rfl (zz_m 1 rfl) rfl rfl rfl rfl dX7_tell_29 rfl (fun H4 locs5 Z6 => ?_)
  clear Z3
  refine lv_aload_n hx hb dX7_tell_32 rfl (lv_at hl 0 rfl) ?_
  refine zz_get X Z6 0 rfl rfl (fun w h => List.mem_cons_of_mem _ (List.mem_append_right _ h)) 29 rfl (zz_m 1 rfl) rfl dX7_tell_33 ?_
  exact zz_iret X hr hlk Z6 () rfl [] [] (by decide +kernel) rfl rfl dX7_tell_36

set_option maxHeartbeats 4000000 in
set_option maxRecDepth 100000 in
theorem c7_check (l : Launch) (D : va_G) (mo : Nat) (ms : Nat) (mi : Nat) (ma : Nat) (mts : Nat) (mtz : Nat) (mtn : Nat) (mh : Nat) (mhn : Nat) (mhw : Nat) (mhz : Nat) (mhr : Nat) (mcl : Nat) (mtp : Nat) (mna : Nat) (mpi : Nat) (mca : Nat) (mwa : Nat) (mrd : Nat) (n : Int32)  : zz_MI l yX7_check wsX7_check 1 25 0 0 D [.ref mo, .int n] [(mo, .inr (7, [.ref ms, .ref mi, .ref ma, .int 0, .ref mts, .ref mtz, .ref mtn, .ref mh, .ref mhn, .ref mhw, .ref mhz, .ref mhr, .ref mcl, .ref mtp, .int 0, .int 0, .int 0, .int 0, .int 0, .int 0, .int 0, .int 0, .int 0, .int 0, .int 0, .ref mna, .ref mpi, .ref mca, .ref mwa, .int 0, .ref mrd]))] [] (fun (r : Int32) (u : Unit) => r = sp_check n) (fun (u : Unit) => []) (fun (u : Unit) => []) := by
  intro sz
  refine Met.ofW (cc := cX7_check) (maxL := 5) (ret := (some .int)) (by decide) rfl ?_
  intro p e s m args below meth c s₁ B hml hv
  obtain ⟨rfl, hC⟩ := hv
  have hx := B.exec
  have hb := B.bytes
  have hr := B.returns
  have hts := atoms_spec (ws := wsX7_check) B.pre
  have hown : s.vm.findClass RX7 = some m.cls := findClass_of_methodNamed B.named
  have hlk := B.notSynchronized
  have X : CallFix p m c cX7_check 5 s _ wsX7_check RX7 := ⟨hx, hb, hml, hown, hts⟩
  have Z := zz_enter hC
  generalize va_A [(mo, .inr (7, [.ref ms, .ref mi, .ref ma, .int 0, .ref mts, .ref mtz, .ref mtn, .ref mh, .ref mhn, .ref mhw, .ref mhz, .ref mhr, .ref mcl, .ref mtp, .int 0, .int 0, .int 0, .int 0, .int 0, .int 0, .int 0, .int 0, .int 0, .int 0, .int 0, .ref mna, .ref mpi, .ref mca, .ref mwa, .int 0, .ref mrd]))] sz = A at Z ⊢
  have hl := lv_entry ([.ref mo, .int n]) (n := 5) (Nat.le_of_ble_eq_true rfl)
  rw [lg_entry_eq]
  generalize (lg_sl ([.ref mo, .int n]) ++ List.replicate (5 - (lg_sl ([.ref mo, .int n])).length) Slot.unset).toArray = ls at hl ⊢
  have hl : lv_has ls 5 [(0, .ref mo), (1, .int n)] := hl
  refine lv_aload_n hx hb dX7_check_0 rfl (lv_at hl 0 rfl) ?_
  refine zz_get X Z 0 rfl rfl (fun w h => List.mem_cons_of_mem _ (List.mem_append_right _ h)) 29 rfl (zz_m 1 rfl) rfl dX7_check_1 ?_
  refine lv_istore_n (lv' := [(2, .int 0), (0, .ref mo), (1, .int n)]) hx hb dX7_check_4 rfl hl (by decide) rfl (fun ls1 hl2 => ?_)
  clear hl
  refine lv_aload_n hx hb dX7_check_5 rfl (lv_at hl2 1 rfl) ?_
  refine lv_iconst (v := 0) hx hb dX7_check_6 (by decide) ?_
  refine zz_put (WS' := [(mo, .inr (7, [.ref ms, .ref mi, .ref ma, .int 0, .ref mts, .ref mtz, .ref mtn, .ref mh, .ref mhn, .ref mhw, .ref mhz, .ref mhr, .ref mcl, .ref mtp, .int 0, .int 0, .int 0, .int 0, .int 0, .int 0, .int 0, .int 0, .int 0, .int 0, .int 0, .ref mna, .ref mpi, .ref mca, .ref mwa, .int 0, .ref mrd]))]) X Z 0 rfl rfl (fun w h => List.mem_cons_of_mem _ (List.mem_append_right _ h)) tyX7 tyX7_ok nmX7 29 rfl (zz_m 1 rfl) rfl rfl rfl rfl dX7_check_7 rfl (fun H3 locs4 Z5 => ?_)
  clear Z
  refine lv_iload_n hx hb dX7_check_10 rfl (lv_at hl2 2 rfl) ?_
  refine lv_i2l (v := Int32.toInt64 n) hx hb dX7_check_11 rfl ?_
  refine lv_lconst (v := 1) hx hb dX7_check_12 (by decide) ?_
  refine zz_vl (v := Int32.toInt64 1) (by decide) ?_
  refine lv_ldc2 (v := 30) hx hb hown (hts _ (zz_m 2 rfl)) dX7_check_13 ?_
  refine zz_vl (v := Int32.toInt64 30) (by decide) ?_
  refine zz_ci (WC := []) (TC := []) (WR := [(mo, .inr (7, [.ref ms, .ref mi, .ref ma, .int 0, .ref mts, .ref mtz, .ref mtn, .ref mh, .ref mhn, .ref mhw, .ref mhz, .ref mhr, .ref mcl, .ref mtp, .int 0, .int 0, .int 0, .int 0, .int 0, .int 0, .int 0, .int 0, .int 0, .int 0, .int 0, .ref mna, .ref mpi, .ref mca, .ref mwa, .int 0, .ref mrd]))]) (TR := []) (k := 0) (n := 0) Z5 [] [0] [] [] rfl rfl (by decide +kernel) (by decide +kernel) (by decide +kernel) rfl rfl (fun Zc => va_runS (As := [.long (Int32.toInt64 n), .long (Int32.toInt64 1), .long (Int32.toInt64 30)]) (rest := []) X (c_isIn l D n 1 30 H3.size) (va_cwS 3 hts gX7_check_X7_isIn rfl rfl rfl zh_X7_isIn ⟨Nat.le_of_ble_eq_true rfl, Nat.le_of_ble_eq_true rfl⟩) (zz_pS Zc) rfl rfl hl2.1 rfl (lv_room (Nat.le_of_ble_eq_true rfl)) dX7_check_16 ⟨Nat.le_of_ble_eq_true rfl, Nat.le_of_ble_eq_true rfl⟩) rfl rfl (fun r3 u1 H6 locs7 hw2 Z8 => ?_)
  clear Z5
  subst r3
  have Z9 : zz_S D A s [(mo, .inr (7, [.ref ms, .ref mi, .ref ma, .int 0, .ref mts, .ref mtz, .ref mtn, .ref mh, .ref mhn, .ref mhw, .ref mhz, .ref mhr, .ref mcl, .ref mtp, .int 0, .int 0, .int 0, .int 0, .int 0, .int 0, .int 0, .int 0, .int 0, .int 0, .int 0, .ref mna, .ref mpi, .ref mca, .ref mwa, .int 0, .ref mrd]))] [] H6 locs7 := Z8
  clear Z8
  by_cases w4 : 1 ≤ n ∧ n ≤ 30
  · refine zz_v (v := 1) (zz_wiT w4) ?_
    refine lv_if_ne (tgt := 25) hx hb dX7_check_19 (by decide) (fun _ => ?_) (fun h => absurd h (by decide))
    refine lv_aload_n hx hb dX7_check_25 rfl (lv_at hl2 1 rfl) ?_
    refine zz_get X Z9 0 rfl rfl (fun w h => List.mem_cons_of_mem _ (List.mem_append_right _ h)) 3 rfl (zz_m 4 rfl) rfl dX7_check_26 ?_
    refine lv_if_ne (tgt := 36) hx hb dX7_check_29 (by decide) (fun h => absurd (by decide) h) (fun _ => ?_)
    refine lv_ldcw (v := (-1000000002)) hx hb hown (hts _ (zz_m 5 rfl)) dX7_check_32 ?_
    exact zz_iret X hr hlk Z9 () (by simp [sp_check, w4]) [] [] (by decide +kernel) rfl rfl dX7_check_35
  · refine zz_v (v := 0) (zz_wiF w4) ?_
    refine lv_if_ne (tgt := 25) hx hb dX7_check_19 (by decide) (fun h => absurd (by decide) h) (fun _ => ?_)
    refine lv_ldc (v := (-1000000001)) hx hb hown (hts _ (zz_m 3 rfl)) dX7_check_22 ?_
    exact zz_iret X hr hlk Z9 () (by simp [sp_check, w4]) [] [] (by decide +kernel) rfl rfl dX7_check_24

set_option maxHeartbeats 4000000 in
set_option maxRecDepth 100000 in
theorem c7_trim (l : Launch) (D : va_G) (mo : Nat) (ms : Nat) (mi : Nat) (ma : Nat) (mts : Nat) (mtz : Nat) (mtn : Nat) (mh : Nat) (mhn : Nat) (mhw : Nat) (mhz : Nat) (mhr : Nat) (mcl : Nat) (mtp : Nat) (mna : Nat) (mpi : Nat) (mca : Nat) (mwa : Nat) (mrd : Nat) (n : Int32)  : zz_MI l yX7_trim wsX7_trim 1 25 0 0 D [.ref mo, .int n] [(mo, .inr (7, [.ref ms, .ref mi, .ref ma, .int 0, .ref mts, .ref mtz, .ref mtn, .ref mh, .ref mhn, .ref mhw, .ref mhz, .ref mhr, .ref mcl, .ref mtp, .int 0, .int 0, .int 0, .int 0, .int 0, .int 0, .int 0, .int 0, .int 0, .int 0, .int 0, .ref mna, .ref mpi, .ref mca, .ref mwa, .int 0, .ref mrd]))] [] (fun (r : Int32) (u : Unit) => r = sp_trim n) (fun (u : Unit) => []) (fun (u : Unit) => []) := by
  intro sz
  refine Met.ofW (cc := cX7_trim) (maxL := 2) (ret := (some .int)) (by decide) rfl ?_
  intro p e s m args below meth c s₁ B hml hv
  obtain ⟨rfl, hC⟩ := hv
  have hx := B.exec
  have hb := B.bytes
  have hr := B.returns
  have hts := atoms_spec (ws := wsX7_trim) B.pre
  have hown : s.vm.findClass RX7 = some m.cls := findClass_of_methodNamed B.named
  have hlk := B.notSynchronized
  have X : CallFix p m c cX7_trim 2 s _ wsX7_trim RX7 := ⟨hx, hb, hml, hown, hts⟩
  have Z := zz_enter hC
  generalize va_A [(mo, .inr (7, [.ref ms, .ref mi, .ref ma, .int 0, .ref mts, .ref mtz, .ref mtn, .ref mh, .ref mhn, .ref mhw, .ref mhz, .ref mhr, .ref mcl, .ref mtp, .int 0, .int 0, .int 0, .int 0, .int 0, .int 0, .int 0, .int 0, .int 0, .int 0, .int 0, .ref mna, .ref mpi, .ref mca, .ref mwa, .int 0, .ref mrd]))] sz = A at Z ⊢
  have hl := lv_entry ([.ref mo, .int n]) (n := 2) (Nat.le_of_ble_eq_true rfl)
  rw [lg_entry_eq]
  generalize (lg_sl ([.ref mo, .int n]) ++ List.replicate (2 - (lg_sl ([.ref mo, .int n])).length) Slot.unset).toArray = ls at hl ⊢
  have hl : lv_has ls 2 [(0, .ref mo), (1, .int n)] := hl
  refine lv_iload_n hx hb dX7_trim_0 rfl (lv_at hl 1 rfl) ?_
  refine lv_i2l (v := Int32.toInt64 n) hx hb dX7_trim_1 rfl ?_
  refine lv_lconst (v := 0) hx hb dX7_trim_2 (by decide) ?_
  refine zz_vl (v := Int32.toInt64 0) (by decide) ?_
  refine lv_aload_n hx hb dX7_trim_3 rfl (lv_at hl 0 rfl) ?_
  refine zz_get X Z 0 rfl rfl (fun w h => List.mem_cons_of_mem _ (List.mem_append_right _ h)) 14 rfl (zz_m 1 rfl) rfl dX7_trim_4 ?_
  refine lv_i2l (v := Int32.toInt64 0) hx hb dX7_trim_7 rfl ?_
  refine zz_ci (WC := []) (TC := []) (WR := [(mo, .inr (7, [.ref ms, .ref mi, .ref ma, .int 0, .ref mts, .ref mtz, .ref mtn, .ref mh, .ref mhn, .ref mhw, .ref mhz, .ref mhr, .ref mcl, .ref mtp, .int 0, .int 0, .int 0, .int 0, .int 0, .int 0, .int 0, .int 0, .int 0, .int 0, .int 0, .ref mna, .ref mpi, .ref mca, .ref mwa, .int 0, .ref mrd]))]) (TR := []) (k := 0) (n := 0) Z [] [0] [] [] rfl rfl (by decide +kernel) (by decide +kernel) (by decide +kernel) rfl rfl (fun Zc => va_runS (As := [.long (Int32.toInt64 n), .long (Int32.toInt64 0), .long (Int32.toInt64 0)]) (rest := []) X (c_isIn l D n 0 0 s.heap.size) (va_cwS 3 hts gX7_trim_X7_isIn rfl rfl rfl zh_X7_isIn ⟨Nat.le_of_ble_eq_true rfl, Nat.le_of_ble_eq_true rfl⟩) (zz_pS Zc) rfl rfl hl.1 rfl (lv_room (Nat.le_of_ble_eq_true rfl)) dX7_trim_8 ⟨Nat.le_of_ble_eq_true rfl, Nat.le_of_ble_eq_true rfl⟩) rfl rfl (fun r3 u1 H1 locs2 hw2 Z3 => ?_)
  clear Z
  subst r3
  have Z4 : zz_S D A s [(mo, .inr (7, [.ref ms, .ref mi, .ref ma, .int 0, .ref mts, .ref mtz, .ref mtn, .ref mh, .ref mhn, .ref mhw, .ref mhz, .ref mhr, .ref mcl, .ref mtp, .int 0, .int 0, .int 0, .int 0, .int 0, .int 0, .int 0, .int 0, .int 0, .int 0, .int 0, .ref mna, .ref mpi, .ref mca, .ref mwa, .int 0, .ref mrd]))] [] H1 locs2 := Z3
  clear Z3
  by_cases w4 : 0 ≤ n ∧ n ≤ 0
  · refine zz_v (v := 1) (zz_wiT w4) ?_
    refine lv_if_ne (tgt := 17) hx hb dX7_trim_11 (by decide) (fun _ => ?_) (fun h => absurd h (by decide))
    refine lv_aload_n hx hb dX7_trim_17 rfl (lv_at hl 0 rfl) ?_
    refine lv_iload_n hx hb dX7_trim_18 rfl (lv_at hl 1 rfl) ?_
    refine zz_put (WS' := [(mo, .inr (7, [.ref ms, .ref mi, .ref ma, .int 0, .ref mts, .ref mtz, .ref mtn, .ref mh, .ref mhn, .ref mhw, .ref mhz, .ref mhr, .ref mcl, .ref mtp, .int n, .int 0, .int 0, .int 0, .int 0, .int 0, .int 0, .int 0, .int 0, .int 0, .int 0, .ref mna, .ref mpi, .ref mca, .ref mwa, .int 0, .ref mrd]))]) X Z4 0 rfl rfl (fun w h => List.mem_cons_of_mem _ (List.mem_append_right _ h)) tyX7 tyX7_ok nmX7 14 rfl (zz_m 1 rfl) rfl rfl rfl rfl dX7_trim_19 rfl (fun H5 locs6 Z7 => ?_)
    clear Z4
    refine lv_iload_n hx hb dX7_trim_22 rfl (lv_at hl 1 rfl) ?_
    exact zz_iret X hr hlk Z7 () (by simp [sp_trim, w4]) [] [] (by decide +kernel) rfl rfl dX7_trim_23
  · refine zz_v (v := 0) (zz_wiF w4) ?_
    refine lv_if_ne (tgt := 17) hx hb dX7_trim_11 (by decide) (fun h => absurd (by decide) h) (fun _ => ?_)
    refine lv_ldc (v := (-1000000001)) hx hb hown (hts _ (zz_m 2 rfl)) dX7_trim_14 ?_
    exact zz_iret X hr hlk Z4 () (by simp [sp_trim, w4]) [] [] (by decide +kernel) rfl rfl dX7_trim_16

set_option maxHeartbeats 4000000 in
set_option maxRecDepth 100000 in
theorem c7_fee (l : Launch) (D : va_G) (mo : Nat) (ms : Nat) (mi : Nat) (ma : Nat) (mts : Nat) (mtz : Nat) (mtn : Nat) (mh : Nat) (mhn : Nat) (mhw : Nat) (mhz : Nat) (mhr : Nat) (mcl : Nat) (mtp : Nat) (mna : Nat) (mpi : Nat) (mca : Nat) (mwa : Nat) (mrd : Nat) (kms : ClassId) (f : (Nat → Int32)) (af_0 : f 0 = 0) (af_1 : f 1 = 0) (af_2 : f 2 = 0) (af_3 : f 3 = 0) (af_4 : f 4 = 0) (af_5 : f 5 = 0) (af_6 : f 6 = 1) (af_7 : f 7 = 0) (af_8 : f 8 = 3) (af_9 : f 9 = 10) (af_10 : f 10 = 0) : zz_MI l yX7_fee wsX7_fee 1 23 0 0 D [.ref mo] [(mo, .inr (7, [.ref ms, .ref mi, .ref ma, .int 0, .ref mts, .ref mtz, .ref mtn, .ref mh, .ref mhn, .ref mhw, .ref mhz, .ref mhr, .ref mcl, .ref mtp, .int 0, .int 0, .int 0, .int 0, .int 0, .int 0, .int 0, .int 0, .int 0, .int 0, .int 0, .ref mna, .ref mpi, .ref mca, .ref mwa, .int 0, .ref mrd])), (ms, .inl (kms, 3047, .inl f))] [(kms, .int)] (fun (r : Int32) (u : Unit) => r = 0) (fun (u : Unit) => []) (fun (u : Unit) => []) := by
  intro sz
  refine Met.ofW (cc := cX7_fee) (maxL := 2) (ret := (some .int)) (by decide) rfl ?_
  intro p e s m args below meth c s₁ B hml hv
  obtain ⟨rfl, hC⟩ := hv
  have hx := B.exec
  have hb := B.bytes
  have hr := B.returns
  have hts := atoms_spec (ws := wsX7_fee) B.pre
  have hown : s.vm.findClass RX7 = some m.cls := findClass_of_methodNamed B.named
  have hlk := B.notSynchronized
  have X : CallFix p m c cX7_fee 2 s _ wsX7_fee RX7 := ⟨hx, hb, hml, hown, hts⟩
  have Z := zz_enter hC
  generalize va_A [(mo, .inr (7, [.ref ms, .ref mi, .ref ma, .int 0, .ref mts, .ref mtz, .ref mtn, .ref mh, .ref mhn, .ref mhw, .ref mhz, .ref mhr, .ref mcl, .ref mtp, .int 0, .int 0, .int 0, .int 0, .int 0, .int 0, .int 0, .int 0, .int 0, .int 0, .int 0, .ref mna, .ref mpi, .ref mca, .ref mwa, .int 0, .ref mrd])), (ms, .inl (kms, 3047, .inl f))] sz = A at Z ⊢
  have hl := lv_entry ([.ref mo]) (n := 2) (Nat.le_of_ble_eq_true rfl)
  rw [lg_entry_eq]
  generalize (lg_sl ([.ref mo]) ++ List.replicate (2 - (lg_sl ([.ref mo])).length) Slot.unset).toArray = ls at hl ⊢
  have hl : lv_has ls 2 [(0, .ref mo)] := hl
  refine lv_aload_n hx hb dX7_fee_0 rfl (lv_at hl 0 rfl) ?_
  refine lv_iconst (v := 1) hx hb dX7_fee_1 (by decide) ?_
  refine zz_ci (WC := [(mo, .inr (7, [.ref ms, .ref mi, .ref ma, .int 0, .ref mts, .ref mtz, .ref mtn, .ref mh, .ref mhn, .ref mhw, .ref mhz, .ref mhr, .ref mcl, .ref mtp, .int 0, .int 0, .int 0, .int 0, .int 0, .int 0, .int 0, .int 0, .int 0, .int 0, .int 0, .ref mna, .ref mpi, .ref mca, .ref mwa, .int 0, .ref mrd])), (ms, .inl (kms, 3047, .inl f))]) (TC := [(kms, .int)]) (WR := []) (TR := []) (k := 0) (n := 0) Z [0, 1] [] [0] [] rfl rfl (by decide +kernel) (by decide +kernel) (by decide +kernel) rfl rfl (fun Zc => va_runV (As := [.int 1]) (rest := []) X (c7_counts l D mo ms mi ma mts mtz mtn mh mhn mhw mhz mhr mcl mtp mna mpi mca mwa mrd 0 0 0 0 0 0 0 0 0 0 0 0 0 kms f 1 af_1 s.heap.size) (cwV 1 hts gX7_fee_X7_counts rfl rfl rfl ⟨rfl, zh_X7_counts⟩ ⟨Nat.le_of_ble_eq_true rfl, Nat.le_of_ble_eq_true rfl⟩) (zz_pV (ci := 7) Zc 0 rfl rfl) rfl rfl hl.1 rfl (lv_room (Nat.le_of_ble_eq_true rfl)) dX7_fee_2 ⟨Nat.le_of_ble_eq_true rfl, Nat.le_of_ble_eq_true rfl⟩) rfl rfl (fun r3 u1 H1 locs2 hw2 Z3 => ?_)
  clear Z
  have hw2 : r3 = (-1) := hw2.trans (by decide)
  subst r3
  have Z4 : zz_S D A s [(mo, .inr (7, [.ref ms, .ref mi, .ref ma, .int 0, .ref mts, .ref mtz, .ref mtn, .ref mh, .ref mhn, .ref mhw, .ref mhz, .ref mhr, .ref mcl, .ref mtp, .int 0, .int 0, .int 0, .int 0, .int 0, .int 0, .int 0, .int 0, .int 0, .int 0, .int 0, .ref mna, .ref mpi, .ref mca, .ref mwa, .int 0, .ref mrd])), (ms, .inl (kms, 3047, .inl f))] [(kms, .int)] H1 locs2 := Z3
  clear Z3
  refine lv_istore_n (lv' := [(1, .int (-1)), (0, .ref mo)]) hx hb dX7_fee_5 rfl hl (by decide) rfl (fun ls5 hl6 => ?_)
  clear hl
  refine lv_iload_n hx hb dX7_fee_6 rfl (lv_at hl6 0 rfl) ?_
  refine lv_if_ge (tgt := 17) hx hb dX7_fee_7 (by decide) (fun h => absurd h (by decide)) (fun _ => ?_)
  refine lv_aload_n hx hb dX7_fee_10 rfl (lv_at hl6 1 rfl) ?_
  refine zz_get X Z4 0 rfl rfl (fun w h => List.mem_cons_of_mem _ (List.mem_append_right _ h)) 0 rfl (zz_m 1 rfl) rfl dX7_fee_11 ?_
  refine lv_iconst (v := 3) hx hb dX7_fee_14 (by decide) ?_
  refine zz_ild X Z4 1 0 rfl rfl (zz_in 3 3047 rfl) dX7_fee_15 ?_
  refine zz_v (v := 0) af_3 ?_
  exact zz_iret X hr hlk Z4 () rfl [] [] (by decide +kernel) rfl rfl dX7_fee_16

set_option maxHeartbeats 4000000 in
set_option maxRecDepth 100000 in
theorem c7_why (l : Launch) (D : va_G) (mo : Nat) (ms : Nat) (mi : Nat) (ma : Nat) (mts : Nat) (mtz : Nat) (mtn : Nat) (mh : Nat) (mhn : Nat) (mhw : Nat) (mhz : Nat) (mhr : Nat) (mcl : Nat) (mtp : Nat) (mna : Nat) (mpi : Nat) (mca : Nat) (mwa : Nat) (mrd : Nat) (kms : ClassId) (f : (Nat → Int32)) (key : Int32) (af_0 : f 0 = 0) (af_1 : f 1 = 0) (af_2 : f 2 = 0) (af_3 : f 3 = 0) (af_4 : f 4 = 0) (af_5 : f 5 = 0) (af_6 : f 6 = 1) (af_7 : f 7 = 0) (af_8 : f 8 = 3) (af_9 : f 9 = 10) (af_10 : f 10 = 0) : zz_MI l yX7_why wsX7_why 1 25 0 0 D [.ref mo, .int key] [(mo, .inr (7, [.ref ms, .ref mi, .ref ma, .int 0, .ref mts, .ref mtz, .ref mtn, .ref mh, .ref mhn, .ref mhw, .ref mhz, .ref mhr, .ref mcl, .ref mtp, .int 0, .int 0, .int 0, .int 0, .int 0, .int 0, .int 0, .int 0, .int 0, .int 0, .int 0, .ref mna, .ref mpi, .ref mca, .ref mwa, .int 0, .ref mrd])), (ms, .inl (kms, 3047, .inl f))] [(kms, .int)] (fun (r : Int32) (u : Unit) => r = sp_why key) (fun (u : Unit) => []) (fun (u : Unit) => []) := by
  intro sz
  refine Met.ofW (cc := cX7_why) (maxL := 2) (ret := (some .int)) (by decide) rfl ?_
  intro p e s m args below meth c s₁ B hml hv
  obtain ⟨rfl, hC⟩ := hv
  have hx := B.exec
  have hb := B.bytes
  have hr := B.returns
  have hts := atoms_spec (ws := wsX7_why) B.pre
  have hown : s.vm.findClass RX7 = some m.cls := findClass_of_methodNamed B.named
  have hlk := B.notSynchronized
  have X : CallFix p m c cX7_why 2 s _ wsX7_why RX7 := ⟨hx, hb, hml, hown, hts⟩
  have Z := zz_enter hC
  generalize va_A [(mo, .inr (7, [.ref ms, .ref mi, .ref ma, .int 0, .ref mts, .ref mtz, .ref mtn, .ref mh, .ref mhn, .ref mhw, .ref mhz, .ref mhr, .ref mcl, .ref mtp, .int 0, .int 0, .int 0, .int 0, .int 0, .int 0, .int 0, .int 0, .int 0, .int 0, .int 0, .ref mna, .ref mpi, .ref mca, .ref mwa, .int 0, .ref mrd])), (ms, .inl (kms, 3047, .inl f))] sz = A at Z ⊢
  have hl := lv_entry ([.ref mo, .int key]) (n := 2) (Nat.le_of_ble_eq_true rfl)
  rw [lg_entry_eq]
  generalize (lg_sl ([.ref mo, .int key]) ++ List.replicate (2 - (lg_sl ([.ref mo, .int key])).length) Slot.unset).toArray = ls at hl ⊢
  have hl : lv_has ls 2 [(0, .ref mo), (1, .int key)] := hl
  refine lv_iload_n hx hb dX7_why_0 rfl (lv_at hl 1 rfl) ?_
  refine lv_i2l (v := Int32.toInt64 key) hx hb dX7_why_1 rfl ?_
  refine lv_lconst (v := 0) hx hb dX7_why_2 (by decide) ?_
  refine zz_vl (v := Int32.toInt64 0) (by decide) ?_
  refine lv_ldc2 (v := 2) hx hb hown (hts _ (zz_m 1 rfl)) dX7_why_3 ?_
  refine zz_vl (v := Int32.toInt64 2) (by decide) ?_
  refine zz_ci (WC := []) (TC := []) (WR := [(mo, .inr (7, [.ref ms, .ref mi, .ref ma, .int 0, .ref mts, .ref mtz, .ref mtn, .ref mh, .ref mhn, .ref mhw, .ref mhz, .ref mhr, .ref mcl, .ref mtp, .int 0, .int 0, .int 0, .int 0, .int 0, .int 0, .int 0, .int 0, .int 0, .int 0, .int 0, .ref mna, .ref mpi, .ref mca, .ref mwa, .int 0, .ref mrd])), (ms, .inl (kms, 3047, .inl f))]) (TR := [(kms, .int)]) (k := 0) (n := 0) Z [] [0, 1] [] [0] rfl rfl (by decide +kernel) (by decide +kernel) (by decide +kernel) rfl rfl (fun Zc => va_runS (As := [.long (Int32.toInt64 key), .long (Int32.toInt64 0), .long (Int32.toInt64 2)]) (rest := []) X (c_isIn l D key 0 2 s.heap.size) (va_cwS 3 hts gX7_why_X7_isIn rfl rfl rfl zh_X7_isIn ⟨Nat.le_of_ble_eq_true rfl, Nat.le_of_ble_eq_true rfl⟩) (zz_pS Zc) rfl rfl hl.1 rfl (lv_room (Nat.le_of_ble_eq_true rfl)) dX7_why_6 ⟨Nat.le_of_ble_eq_true rfl, Nat.le_of_ble_eq_true rfl⟩) rfl rfl (fun r3 u1 H1 locs2 hw2 Z3 => ?_)
  clear Z
  subst r3
  have Z4 : zz_S D A s [(mo, .inr (7, [.ref ms, .ref mi, .ref ma, .int 0, .ref mts, .ref mtz, .ref mtn, .ref mh, .ref mhn, .ref mhw, .ref mhz, .ref mhr, .ref mcl, .ref mtp, .int 0, .int 0, .int 0, .int 0, .int 0, .int 0, .int 0, .int 0, .int 0, .int 0, .int 0, .ref mna, .ref mpi, .ref mca, .ref mwa, .int 0, .ref mrd])), (ms, .inl (kms, 3047, .inl f))] [(kms, .int)] H1 locs2 := Z3
  clear Z3
  by_cases w4 : 0 ≤ key ∧ key ≤ 2
  · refine zz_v (v := 1) (zz_wiT w4) ?_
    refine lv_if_eq (tgt := 23) hx hb dX7_why_9 (by decide) (fun h => absurd h (by decide)) (fun _ => ?_)
    refine lv_aload_n hx hb dX7_why_12 rfl (lv_at hl 0 rfl) ?_
    refine lv_iload_n hx hb dX7_why_13 rfl (lv_at hl 1 rfl) ?_
    refine zz_ci (WC := [(mo, .inr (7, [.ref ms, .ref mi, .ref ma, .int 0, .ref mts, .ref mtz, .ref mtn, .ref mh, .ref mhn, .ref mhw, .ref mhz, .ref mhr, .ref mcl, .ref mtp, .int 0, .int 0, .int 0, .int 0, .int 0, .int 0, .int 0, .int 0, .int 0, .int 0, .int 0, .ref mna, .ref mpi, .ref mca, .ref mwa, .int 0, .ref mrd])), (ms, .inl (kms, 3047, .inl f))]) (TC := [(kms, .int)]) (WR := []) (TR := []) (k := 0) (n := 0) Z4 [0, 1] [] [0] [] rfl rfl (by decide +kernel) (by decide +kernel) (by decide +kernel) rfl rfl (fun Zc => va_runV (As := [.int key]) (rest := []) X (c7_counts l D mo ms mi ma mts mtz mtn mh mhn mhw mhz mhr mcl mtp mna mpi mca mwa mrd 0 0 0 0 0 0 0 0 0 0 0 0 0 kms f key af_1 H1.size) (cwV 1 hts gX7_why_X7_counts rfl rfl rfl ⟨rfl, zh_X7_counts⟩ ⟨Nat.le_of_ble_eq_true rfl, Nat.le_of_ble_eq_true rfl⟩) (zz_pV (ci := 7) Zc 0 rfl rfl) rfl rfl hl.1 rfl (lv_room (Nat.le_of_ble_eq_true rfl)) dX7_why_14 ⟨Nat.le_of_ble_eq_true rfl, Nat.le_of_ble_eq_true rfl⟩) rfl rfl (fun r7 u5 H5 locs6 hw6 Z7 => ?_)
    clear Z4
    have hw6 : r7 = (-1) := hw6.trans (by decide)
    subst r7
    have Z8 : zz_S D A s [(mo, .inr (7, [.ref ms, .ref mi, .ref ma, .int 0, .ref mts, .ref mtz, .ref mtn, .ref mh, .ref mhn, .ref mhw, .ref mhz, .ref mhr, .ref mcl, .ref mtp, .int 0, .int 0, .int 0, .int 0, .int 0, .int 0, .int 0, .int 0, .int 0, .int 0, .int 0, .ref mna, .ref mpi, .ref mca, .ref mwa, .int 0, .ref mrd])), (ms, .inl (kms, 3047, .inl f))] [(kms, .int)] H5 locs6 := Z7
    clear Z7
    refine zz_ci (WC := []) (TC := []) (WR := [(mo, .inr (7, [.ref ms, .ref mi, .ref ma, .int 0, .ref mts, .ref mtz, .ref mtn, .ref mh, .ref mhn, .ref mhw, .ref mhz, .ref mhr, .ref mcl, .ref mtp, .int 0, .int 0, .int 0, .int 0, .int 0, .int 0, .int 0, .int 0, .int 0, .int 0, .int 0, .ref mna, .ref mpi, .ref mca, .ref mwa, .int 0, .ref mrd])), (ms, .inl (kms, 3047, .inl f))]) (TR := [(kms, .int)]) (k := 0) (n := 0) Z8 [] [0, 1] [] [0] rfl rfl (by decide +kernel) (by decide +kernel) (by decide +kernel) rfl rfl (fun Zc => va_runS (As := [.int (-1)]) (rest := []) X (c_orNone l D (-1) H5.size) (va_cwS 1 hts gX7_why_X7_orNone rfl rfl rfl zh_X7_orNone ⟨Nat.le_of_ble_eq_true rfl, Nat.le_of_ble_eq_true rfl⟩) (zz_pS Zc) rfl rfl hl.1 rfl (lv_room (Nat.le_of_ble_eq_true rfl)) dX7_why_17 ⟨Nat.le_of_ble_eq_true rfl, Nat.le_of_ble_eq_true rfl⟩) rfl rfl (fun r10 u8 H9 locs10 hw9 Z11 => ?_)
    clear Z8
    have hw9 : r10 = (-1000000005) := hw9.trans (by decide)
    subst r10
    have Z12 : zz_S D A s [(mo, .inr (7, [.ref ms, .ref mi, .ref ma, .int 0, .ref mts, .ref mtz, .ref mtn, .ref mh, .ref mhn, .ref mhw, .ref mhz, .ref mhr, .ref mcl, .ref mtp, .int 0, .int 0, .int 0, .int 0, .int 0, .int 0, .int 0, .int 0, .int 0, .int 0, .int 0, .ref mna, .ref mpi, .ref mca, .ref mwa, .int 0, .ref mrd])), (ms, .inl (kms, 3047, .inl f))] [(kms, .int)] H9 locs10 := Z11
    clear Z11
    refine lv_goto (tgt := 25) hx hb dX7_why_20 (by decide) ?_
    exact zz_iret X hr hlk Z12 () (by simp [sp_why, w4]) [] [] (by decide +kernel) rfl rfl dX7_why_25
  · refine zz_v (v := 0) (zz_wiF w4) ?_
    refine lv_if_eq (tgt := 23) hx hb dX7_why_9 (by decide) (fun _ => ?_) (fun h => absurd (by decide) h)
    refine lv_ldc (v := (-1000000001)) hx hb hown (hts _ (zz_m 2 rfl)) dX7_why_23 ?_
    exact zz_iret X hr hlk Z4 () (by simp [sp_why, w4]) [] [] (by decide +kernel) rfl rfl dX7_why_25

set_option maxHeartbeats 4000000 in
set_option maxRecDepth 100000 in
theorem c7_mark (l : Launch) (D : va_G) (mo : Nat) (ms : Nat) (mi : Nat) (ma : Nat) (mts : Nat) (mtz : Nat) (mtn : Nat) (mh : Nat) (mhn : Nat) (mhw : Nat) (mhz : Nat) (mhr : Nat) (mcl : Nat) (mtp : Nat) (mna : Nat) (mpi : Nat) (mca : Nat) (mwa : Nat) (mrd : Nat) (k_mts : ClassId) (tsf : (Nat → Int32)) (sheet : Int32) (place : Int32) (v : Int32) (atsf_0 : tsf 0 = (-1)) (atsf_1 : tsf 1 = (-1)) (atsf_2 : tsf 2 = (-1)) (atsf_3 : tsf 3 = (-1)) : zz_MI l yX7_mark wsX7_mark 2 45 0 0 D [.ref mo, .int sheet, .int place, .int v] [(mo, .inr (7, [.ref ms, .ref mi, .ref ma, .int 0, .ref mts, .ref mtz, .ref mtn, .ref mh, .ref mhn, .ref mhw, .ref mhz, .ref mhr, .ref mcl, .ref mtp, .int 0, .int 0, .int 0, .int 0, .int 0, .int 0, .int 0, .int 0, .int 0, .int 0, .int 0, .ref mna, .ref mpi, .ref mca, .ref mwa, .int 0, .ref mrd])), (mts, .inl (k_mts, 4, .inl tsf))] [(k_mts, .int)] (fun (r : Int32) (u : Unit) => r = sp_sh sheet) (fun (u : Unit) => []) (fun (u : Unit) => []) := by
  intro sz
  refine Met.ofW (cc := cX7_mark) (maxL := 4) (ret := (some .int)) (by decide) rfl ?_
  intro p e s m args below meth c s₁ B hml hv
  obtain ⟨rfl, hC⟩ := hv
  have hx := B.exec
  have hb := B.bytes
  have hr := B.returns
  have hts := atoms_spec (ws := wsX7_mark) B.pre
  have hown : s.vm.findClass RX7 = some m.cls := findClass_of_methodNamed B.named
  have hlk := B.notSynchronized
  have X : CallFix p m c cX7_mark 4 s _ wsX7_mark RX7 := ⟨hx, hb, hml, hown, hts⟩
  have Z := zz_enter hC
  generalize va_A [(mo, .inr (7, [.ref ms, .ref mi, .ref ma, .int 0, .ref mts, .ref mtz, .ref mtn, .ref mh, .ref mhn, .ref mhw, .ref mhz, .ref mhr, .ref mcl, .ref mtp, .int 0, .int 0, .int 0, .int 0, .int 0, .int 0, .int 0, .int 0, .int 0, .int 0, .int 0, .ref mna, .ref mpi, .ref mca, .ref mwa, .int 0, .ref mrd])), (mts, .inl (k_mts, 4, .inl tsf))] sz = A at Z ⊢
  have hl := lv_entry ([.ref mo, .int sheet, .int place, .int v]) (n := 4) (Nat.le_of_ble_eq_true rfl)
  rw [lg_entry_eq]
  generalize (lg_sl ([.ref mo, .int sheet, .int place, .int v]) ++ List.replicate (4 - (lg_sl ([.ref mo, .int sheet, .int place, .int v])).length) Slot.unset).toArray = ls at hl ⊢
  have hl : lv_has ls 4 [(0, .ref mo), (1, .int sheet), (2, .int place), (3, .int v)] := hl
  refine lv_iload_n hx hb dX7_mark_0 rfl (lv_at hl 1 rfl) ?_
  refine zz_ci (WC := []) (TC := []) (WR := [(mo, .inr (7, [.ref ms, .ref mi, .ref ma, .int 0, .ref mts, .ref mtz, .ref mtn, .ref mh, .ref mhn, .ref mhw, .ref mhz, .ref mhr, .ref mcl, .ref mtp, .int 0, .int 0, .int 0, .int 0, .int 0, .int 0, .int 0, .int 0, .int 0, .int 0, .int 0, .ref mna, .ref mpi, .ref mca, .ref mwa, .int 0, .ref mrd])), (mts, .inl (k_mts, 4, .inl tsf))]) (TR := [(k_mts, .int)]) (k := 0) (n := 0) Z [] [0, 1] [] [0] rfl rfl (by decide +kernel) (by decide +kernel) (by decide +kernel) rfl rfl (fun Zc => va_runS (As := [.int sheet]) (rest := []) X (c7_isSheet l D sheet s.heap.size) (va_cwS 1 hts gX7_mark_X7_isSheet rfl rfl rfl zh_X7_isSheet ⟨Nat.le_of_ble_eq_true rfl, Nat.le_of_ble_eq_true rfl⟩) (zz_pS Zc) rfl rfl hl.1 rfl (lv_room (Nat.le_of_ble_eq_true rfl)) dX7_mark_1 ⟨Nat.le_of_ble_eq_true rfl, Nat.le_of_ble_eq_true rfl⟩) rfl rfl (fun r3 u1 H1 locs2 hw2 Z3 => ?_)
  clear Z
  subst r3
  have Z4 : zz_S D A s [(mo, .inr (7, [.ref ms, .ref mi, .ref ma, .int 0, .ref mts, .ref mtz, .ref mtn, .ref mh, .ref mhn, .ref mhw, .ref mhz, .ref mhr, .ref mcl, .ref mtp, .int 0, .int 0, .int 0, .int 0, .int 0, .int 0, .int 0, .int 0, .int 0, .int 0, .int 0, .ref mna, .ref mpi, .ref mca, .ref mwa, .int 0, .ref mrd])), (mts, .inl (k_mts, 4, .inl tsf))] [(k_mts, .int)] H1 locs2 := Z3
  clear Z3
  by_cases w4 : 0 ≤ sheet ∧ sheet ≤ 3
  · obtain ⟨j, hj, e5⟩ := zz_rng 3 w4 (by decide)
    rcases (show j = 0 ∨ j = 1 ∨ j = 2 ∨ j = 3 by omega) with rfl | rfl | rfl | rfl
    · have e5 : sheet = 0 := e5
      subst e5
      refine zz_v (v := 1) (by decide) ?_
      refine lv_if_ne (tgt := 10) hx hb dX7_mark_4 (by decide) (fun _ => ?_) (fun h => absurd h (by decide))
      refine lv_aload_n hx hb dX7_mark_10 rfl (lv_at hl 0 rfl) ?_
      refine zz_get X Z4 0 rfl rfl (fun w h => List.mem_cons_of_mem _ (List.mem_append_right _ h)) 4 rfl (zz_m 2 rfl) rfl dX7_mark_11 ?_
      refine lv_iload_n hx hb dX7_mark_14 rfl (lv_at hl 1 rfl) ?_
      refine zz_ild X Z4 1 0 rfl rfl (zz_in 0 4 rfl) dX7_mark_15 ?_
      refine zz_v (v := (-1)) atsf_0 ?_
      refine lv_if_ge (tgt := 23) hx hb dX7_mark_16 (by decide) (fun h => absurd h (by decide)) (fun _ => ?_)
      refine lv_ldcw (v := (-1000000011)) hx hb hown (hts _ (zz_m 3 rfl)) dX7_mark_19 ?_
      exact zz_iret X hr hlk Z4 () (by simp [sp_sh]) [] [] (by decide +kernel) rfl rfl dX7_mark_22
    · have e5 : sheet = 1 := e5
      subst e5
      refine zz_v (v := 1) (by decide) ?_
      refine lv_if_ne (tgt := 10) hx hb dX7_mark_4 (by decide) (fun _ => ?_) (fun h => absurd h (by decide))
      refine lv_aload_n hx hb dX7_mark_10 rfl (lv_at hl 0 rfl) ?_
      refine zz_get X Z4 0 rfl rfl (fun w h => List.mem_cons_of_mem _ (List.mem_append_right _ h)) 4 rfl (zz_m 2 rfl) rfl dX7_mark_11 ?_
      refine lv_iload_n hx hb dX7_mark_14 rfl (lv_at hl 1 rfl) ?_
      refine zz_ild X Z4 1 0 rfl rfl (zz_in 1 4 rfl) dX7_mark_15 ?_
      refine zz_v (v := (-1)) atsf_1 ?_
      refine lv_if_ge (tgt := 23) hx hb dX7_mark_16 (by decide) (fun h => absurd h (by decide)) (fun _ => ?_)
      refine lv_ldcw (v := (-1000000011)) hx hb hown (hts _ (zz_m 3 rfl)) dX7_mark_19 ?_
      exact zz_iret X hr hlk Z4 () (by simp [sp_sh]) [] [] (by decide +kernel) rfl rfl dX7_mark_22
    · have e5 : sheet = 2 := e5
      subst e5
      refine zz_v (v := 1) (by decide) ?_
      refine lv_if_ne (tgt := 10) hx hb dX7_mark_4 (by decide) (fun _ => ?_) (fun h => absurd h (by decide))
      refine lv_aload_n hx hb dX7_mark_10 rfl (lv_at hl 0 rfl) ?_
      refine zz_get X Z4 0 rfl rfl (fun w h => List.mem_cons_of_mem _ (List.mem_append_right _ h)) 4 rfl (zz_m 2 rfl) rfl dX7_mark_11 ?_
      refine lv_iload_n hx hb dX7_mark_14 rfl (lv_at hl 1 rfl) ?_
      refine zz_ild X Z4 1 0 rfl rfl (zz_in 2 4 rfl) dX7_mark_15 ?_
      refine zz_v (v := (-1)) atsf_2 ?_
      refine lv_if_ge (tgt := 23) hx hb dX7_mark_16 (by decide) (fun h => absurd h (by decide)) (fun _ => ?_)
      refine lv_ldcw (v := (-1000000011)) hx hb hown (hts _ (zz_m 3 rfl)) dX7_mark_19 ?_
      exact zz_iret X hr hlk Z4 () (by simp [sp_sh]) [] [] (by decide +kernel) rfl rfl dX7_mark_22
    · have e5 : sheet = 3 := e5
      subst e5
      refine zz_v (v := 1) (by decide) ?_
      refine lv_if_ne (tgt := 10) hx hb dX7_mark_4 (by decide) (fun _ => ?_) (fun h => absurd h (by decide))
      refine lv_aload_n hx hb dX7_mark_10 rfl (lv_at hl 0 rfl) ?_
      refine zz_get X Z4 0 rfl rfl (fun w h => List.mem_cons_of_mem _ (List.mem_append_right _ h)) 4 rfl (zz_m 2 rfl) rfl dX7_mark_11 ?_
      refine lv_iload_n hx hb dX7_mark_14 rfl (lv_at hl 1 rfl) ?_
      refine zz_ild X Z4 1 0 rfl rfl (zz_in 3 4 rfl) dX7_mark_15 ?_
      refine zz_v (v := (-1)) atsf_3 ?_
      refine lv_if_ge (tgt := 23) hx hb dX7_mark_16 (by decide) (fun h => absurd h (by decide)) (fun _ => ?_)
      refine lv_ldcw (v := (-1000000011)) hx hb hown (hts _ (zz_m 3 rfl)) dX7_mark_19 ?_
      exact zz_iret X hr hlk Z4 () (by simp [sp_sh]) [] [] (by decide +kernel) rfl rfl dX7_mark_22
  · refine zz_v (v := 0) (zz_wiF w4) ?_
    refine lv_if_ne (tgt := 10) hx hb dX7_mark_4 (by decide) (fun h => absurd (by decide) h) (fun _ => ?_)
    refine lv_ldc (v := (-1000000001)) hx hb hown (hts _ (zz_m 1 rfl)) dX7_mark_7 ?_
    exact zz_iret X hr hlk Z4 () (by simp [sp_sh, w4]) [] [] (by decide +kernel) rfl rfl dX7_mark_9

set_option maxHeartbeats 4000000 in
set_option maxRecDepth 100000 in
theorem c7_pour (l : Launch) (D : va_G) (mo : Nat) (ms : Nat) (mi : Nat) (ma : Nat) (mts : Nat) (mtz : Nat) (mtn : Nat) (mh : Nat) (mhn : Nat) (mhw : Nat) (mhz : Nat) (mhr : Nat) (mcl : Nat) (mtp : Nat) (mna : Nat) (mpi : Nat) (mca : Nat) (mwa : Nat) (mrd : Nat) (k_mts : ClassId) (tsf : (Nat → Int32)) (sheet : Int32) (atsf_0 : tsf 0 = (-1)) (atsf_1 : tsf 1 = (-1)) (atsf_2 : tsf 2 = (-1)) (atsf_3 : tsf 3 = (-1)) : zz_MI l yX7_pour wsX7_pour 2 45 0 0 D [.ref mo, .int sheet] [(mo, .inr (7, [.ref ms, .ref mi, .ref ma, .int 0, .ref mts, .ref mtz, .ref mtn, .ref mh, .ref mhn, .ref mhw, .ref mhz, .ref mhr, .ref mcl, .ref mtp, .int 0, .int 0, .int 0, .int 0, .int 0, .int 0, .int 0, .int 0, .int 0, .int 0, .int 0, .ref mna, .ref mpi, .ref mca, .ref mwa, .int 0, .ref mrd])), (mts, .inl (k_mts, 4, .inl tsf))] [(k_mts, .int)] (fun (r : Int32) (u : Unit) => r = sp_sh sheet) (fun (u : Unit) => []) (fun (u : Unit) => []) := by
  intro sz
  refine Met.ofW (cc := cX7_pour) (maxL := 6) (ret := (some .int)) (by decide) rfl ?_
  intro p e s m args below meth c s₁ B hml hv
  obtain ⟨rfl, hC⟩ := hv
  have hx := B.exec
  have hb := B.bytes
  have hr := B.returns
  have hts := atoms_spec (ws := wsX7_pour) B.pre
  have hown : s.vm.findClass RX7 = some m.cls := findClass_of_methodNamed B.named
  have hlk := B.notSynchronized
  have X : CallFix p m c cX7_pour 6 s _ wsX7_pour RX7 := ⟨hx, hb, hml, hown, hts⟩
  have Z := zz_enter hC
  generalize va_A [(mo, .inr (7, [.ref ms, .ref mi, .ref ma, .int 0, .ref mts, .ref mtz, .ref mtn, .ref mh, .ref mhn, .ref mhw, .ref mhz, .ref mhr, .ref mcl, .ref mtp, .int 0, .int 0, .int 0, .int 0, .int 0, .int 0, .int 0, .int 0, .int 0, .int 0, .int 0, .ref mna, .ref mpi, .ref mca, .ref mwa, .int 0, .ref mrd])), (mts, .inl (k_mts, 4, .inl tsf))] sz = A at Z ⊢
  have hl := lv_entry ([.ref mo, .int sheet]) (n := 6) (Nat.le_of_ble_eq_true rfl)
  rw [lg_entry_eq]
  generalize (lg_sl ([.ref mo, .int sheet]) ++ List.replicate (6 - (lg_sl ([.ref mo, .int sheet])).length) Slot.unset).toArray = ls at hl ⊢
  have hl : lv_has ls 6 [(0, .ref mo), (1, .int sheet)] := hl
  refine lv_iload_n hx hb dX7_pour_0 rfl (lv_at hl 1 rfl) ?_
  refine zz_ci (WC := []) (TC := []) (WR := [(mo, .inr (7, [.ref ms, .ref mi, .ref ma, .int 0, .ref mts, .ref mtz, .ref mtn, .ref mh, .ref mhn, .ref mhw, .ref mhz, .ref mhr, .ref mcl, .ref mtp, .int 0, .int 0, .int 0, .int 0, .int 0, .int 0, .int 0, .int 0, .int 0, .int 0, .int 0, .ref mna, .ref mpi, .ref mca, .ref mwa, .int 0, .ref mrd])), (mts, .inl (k_mts, 4, .inl tsf))]) (TR := [(k_mts, .int)]) (k := 0) (n := 0) Z [] [0, 1] [] [0] rfl rfl (by decide +kernel) (by decide +kernel) (by decide +kernel) rfl rfl (fun Zc => va_runS (As := [.int sheet]) (rest := []) X (c7_isSheet l D sheet s.heap.size) (va_cwS 1 hts gX7_pour_X7_isSheet rfl rfl rfl zh_X7_isSheet ⟨Nat.le_of_ble_eq_true rfl, Nat.le_of_ble_eq_true rfl⟩) (zz_pS Zc) rfl rfl hl.1 rfl (lv_room (Nat.le_of_ble_eq_true rfl)) dX7_pour_1 ⟨Nat.le_of_ble_eq_true rfl, Nat.le_of_ble_eq_true rfl⟩) rfl rfl (fun r3 u1 H1 locs2 hw2 Z3 => ?_)
  clear Z
  subst r3
  have Z4 : zz_S D A s [(mo, .inr (7, [.ref ms, .ref mi, .ref ma, .int 0, .ref mts, .ref mtz, .ref mtn, .ref mh, .ref mhn, .ref mhw, .ref mhz, .ref mhr, .ref mcl, .ref mtp, .int 0, .int 0, .int 0, .int 0, .int 0, .int 0, .int 0, .int 0, .int 0, .int 0, .int 0, .ref mna, .ref mpi, .ref mca, .ref mwa, .int 0, .ref mrd])), (mts, .inl (k_mts, 4, .inl tsf))] [(k_mts, .int)] H1 locs2 := Z3
  clear Z3
  by_cases w4 : 0 ≤ sheet ∧ sheet ≤ 3
  · obtain ⟨j, hj, e5⟩ := zz_rng 3 w4 (by decide)
    rcases (show j = 0 ∨ j = 1 ∨ j = 2 ∨ j = 3 by omega) with rfl | rfl | rfl | rfl
    · have e5 : sheet = 0 := e5
      subst e5
      refine zz_v (v := 1) (by decide) ?_
      refine lv_if_ne (tgt := 10) hx hb dX7_pour_4 (by decide) (fun _ => ?_) (fun h => absurd h (by decide))
      refine lv_aload_n hx hb dX7_pour_10 rfl (lv_at hl 0 rfl) ?_
      refine zz_get X Z4 0 rfl rfl (fun w h => List.mem_cons_of_mem _ (List.mem_append_right _ h)) 4 rfl (zz_m 2 rfl) rfl dX7_pour_11 ?_
      refine lv_iload_n hx hb dX7_pour_14 rfl (lv_at hl 1 rfl) ?_
      refine zz_ild X Z4 1 0 rfl rfl (zz_in 0 4 rfl) dX7_pour_15 ?_
      refine zz_v (v := (-1)) atsf_0 ?_
      refine lv_if_ge (tgt := 23) hx hb dX7_pour_16 (by decide) (fun h => absurd h (by decide)) (fun _ => ?_)
      refine lv_ldcw (v := (-1000000011)) hx hb hown (hts _ (zz_m 3 rfl)) dX7_pour_19 ?_
      exact zz_iret X hr hlk Z4 () (by simp [sp_sh]) [] [] (by decide +kernel) rfl rfl dX7_pour_22
    · have e5 : sheet = 1 := e5
      subst e5
      refine zz_v (v := 1) (by decide) ?_
      refine lv_if_ne (tgt := 10) hx hb dX7_pour_4 (by decide) (fun _ => ?_) (fun h => absurd h (by decide))
      refine lv_aload_n hx hb dX7_pour_10 rfl (lv_at hl 0 rfl) ?_
      refine zz_get X Z4 0 rfl rfl (fun w h => List.mem_cons_of_mem _ (List.mem_append_right _ h)) 4 rfl (zz_m 2 rfl) rfl dX7_pour_11 ?_
      refine lv_iload_n hx hb dX7_pour_14 rfl (lv_at hl 1 rfl) ?_
      refine zz_ild X Z4 1 0 rfl rfl (zz_in 1 4 rfl) dX7_pour_15 ?_
      refine zz_v (v := (-1)) atsf_1 ?_
      refine lv_if_ge (tgt := 23) hx hb dX7_pour_16 (by decide) (fun h => absurd h (by decide)) (fun _ => ?_)
      refine lv_ldcw (v := (-1000000011)) hx hb hown (hts _ (zz_m 3 rfl)) dX7_pour_19 ?_
      exact zz_iret X hr hlk Z4 () (by simp [sp_sh]) [] [] (by decide +kernel) rfl rfl dX7_pour_22
    · have e5 : sheet = 2 := e5
      subst e5
      refine zz_v (v := 1) (by decide) ?_
      refine lv_if_ne (tgt := 10) hx hb dX7_pour_4 (by decide) (fun _ => ?_) (fun h => absurd h (by decide))
      refine lv_aload_n hx hb dX7_pour_10 rfl (lv_at hl 0 rfl) ?_
      refine zz_get X Z4 0 rfl rfl (fun w h => List.mem_cons_of_mem _ (List.mem_append_right _ h)) 4 rfl (zz_m 2 rfl) rfl dX7_pour_11 ?_
      refine lv_iload_n hx hb dX7_pour_14 rfl (lv_at hl 1 rfl) ?_
      refine zz_ild X Z4 1 0 rfl rfl (zz_in 2 4 rfl) dX7_pour_15 ?_
      refine zz_v (v := (-1)) atsf_2 ?_
      refine lv_if_ge (tgt := 23) hx hb dX7_pour_16 (by decide) (fun h => absurd h (by decide)) (fun _ => ?_)
      refine lv_ldcw (v := (-1000000011)) hx hb hown (hts _ (zz_m 3 rfl)) dX7_pour_19 ?_
      exact zz_iret X hr hlk Z4 () (by simp [sp_sh]) [] [] (by decide +kernel) rfl rfl dX7_pour_22
    · have e5 : sheet = 3 := e5
      subst e5
      refine zz_v (v := 1) (by decide) ?_
      refine lv_if_ne (tgt := 10) hx hb dX7_pour_4 (by decide) (fun _ => ?_) (fun h => absurd h (by decide))
      refine lv_aload_n hx hb dX7_pour_10 rfl (lv_at hl 0 rfl) ?_
      refine zz_get X Z4 0 rfl rfl (fun w h => List.mem_cons_of_mem _ (List.mem_append_right _ h)) 4 rfl (zz_m 2 rfl) rfl dX7_pour_11 ?_
      refine lv_iload_n hx hb dX7_pour_14 rfl (lv_at hl 1 rfl) ?_
      refine zz_ild X Z4 1 0 rfl rfl (zz_in 3 4 rfl) dX7_pour_15 ?_
      refine zz_v (v := (-1)) atsf_3 ?_
      refine lv_if_ge (tgt := 23) hx hb dX7_pour_16 (by decide) (fun h => absurd h (by decide)) (fun _ => ?_)
      refine lv_ldcw (v := (-1000000011)) hx hb hown (hts _ (zz_m 3 rfl)) dX7_pour_19 ?_
      exact zz_iret X hr hlk Z4 () (by simp [sp_sh]) [] [] (by decide +kernel) rfl rfl dX7_pour_22
  · refine zz_v (v := 0) (zz_wiF w4) ?_
    refine lv_if_ne (tgt := 10) hx hb dX7_pour_4 (by decide) (fun h => absurd (by decide) h) (fun _ => ?_)
    refine lv_ldc (v := (-1000000001)) hx hb hown (hts _ (zz_m 1 rfl)) dX7_pour_7 ?_
    exact zz_iret X hr hlk Z4 () (by simp [sp_sh, w4]) [] [] (by decide +kernel) rfl rfl dX7_pour_9

set_option maxHeartbeats 4000000 in
set_option maxRecDepth 100000 in
theorem c7_reads (l : Launch) (D : va_G) (mo : Nat) (ms : Nat) (mi : Nat) (ma : Nat) (mts : Nat) (mtz : Nat) (mtn : Nat) (mh : Nat) (mhn : Nat) (mhw : Nat) (mhz : Nat) (mhr : Nat) (mcl : Nat) (mtp : Nat) (mna : Nat) (mpi : Nat) (mca : Nat) (mwa : Nat) (mrd : Nat) (k_mts : ClassId) (tsf : (Nat → Int32)) (sheet : Int32) (atsf_0 : tsf 0 = (-1)) (atsf_1 : tsf 1 = (-1)) (atsf_2 : tsf 2 = (-1)) (atsf_3 : tsf 3 = (-1)) : zz_MI l yX7_reads wsX7_reads 2 45 0 0 D [.ref mo, .int sheet] [(mo, .inr (7, [.ref ms, .ref mi, .ref ma, .int 0, .ref mts, .ref mtz, .ref mtn, .ref mh, .ref mhn, .ref mhw, .ref mhz, .ref mhr, .ref mcl, .ref mtp, .int 0, .int 0, .int 0, .int 0, .int 0, .int 0, .int 0, .int 0, .int 0, .int 0, .int 0, .ref mna, .ref mpi, .ref mca, .ref mwa, .int 0, .ref mrd])), (mts, .inl (k_mts, 4, .inl tsf))] [(k_mts, .int)] (fun (r : Int32) (u : Unit) => r = sp_sh sheet) (fun (u : Unit) => []) (fun (u : Unit) => []) := by
  intro sz
  refine Met.ofW (cc := cX7_reads) (maxL := 4) (ret := (some .int)) (by decide) rfl ?_
  intro p e s m args below meth c s₁ B hml hv
  obtain ⟨rfl, hC⟩ := hv
  have hx := B.exec
  have hb := B.bytes
  have hr := B.returns
  have hts := atoms_spec (ws := wsX7_reads) B.pre
  have hown : s.vm.findClass RX7 = some m.cls := findClass_of_methodNamed B.named
  have hlk := B.notSynchronized
  have X : CallFix p m c cX7_reads 4 s _ wsX7_reads RX7 := ⟨hx, hb, hml, hown, hts⟩
  have Z := zz_enter hC
  generalize va_A [(mo, .inr (7, [.ref ms, .ref mi, .ref ma, .int 0, .ref mts, .ref mtz, .ref mtn, .ref mh, .ref mhn, .ref mhw, .ref mhz, .ref mhr, .ref mcl, .ref mtp, .int 0, .int 0, .int 0, .int 0, .int 0, .int 0, .int 0, .int 0, .int 0, .int 0, .int 0, .ref mna, .ref mpi, .ref mca, .ref mwa, .int 0, .ref mrd])), (mts, .inl (k_mts, 4, .inl tsf))] sz = A at Z ⊢
  have hl := lv_entry ([.ref mo, .int sheet]) (n := 4) (Nat.le_of_ble_eq_true rfl)
  rw [lg_entry_eq]
  generalize (lg_sl ([.ref mo, .int sheet]) ++ List.replicate (4 - (lg_sl ([.ref mo, .int sheet])).length) Slot.unset).toArray = ls at hl ⊢
  have hl : lv_has ls 4 [(0, .ref mo), (1, .int sheet)] := hl
  refine lv_iload_n hx hb dX7_reads_0 rfl (lv_at hl 1 rfl) ?_
  refine zz_ci (WC := []) (TC := []) (WR := [(mo, .inr (7, [.ref ms, .ref mi, .ref ma, .int 0, .ref mts, .ref mtz, .ref mtn, .ref mh, .ref mhn, .ref mhw, .ref mhz, .ref mhr, .ref mcl, .ref mtp, .int 0, .int 0, .int 0, .int 0, .int 0, .int 0, .int 0, .int 0, .int 0, .int 0, .int 0, .ref mna, .ref mpi, .ref mca, .ref mwa, .int 0, .ref mrd])), (mts, .inl (k_mts, 4, .inl tsf))]) (TR := [(k_mts, .int)]) (k := 0) (n := 0) Z [] [0, 1] [] [0] rfl rfl (by decide +kernel) (by decide +kernel) (by decide +kernel) rfl rfl (fun Zc => va_runS (As := [.int sheet]) (rest := []) X (c7_isSheet l D sheet s.heap.size) (va_cwS 1 hts gX7_reads_X7_isSheet rfl rfl rfl zh_X7_isSheet ⟨Nat.le_of_ble_eq_true rfl, Nat.le_of_ble_eq_true rfl⟩) (zz_pS Zc) rfl rfl hl.1 rfl (lv_room (Nat.le_of_ble_eq_true rfl)) dX7_reads_1 ⟨Nat.le_of_ble_eq_true rfl, Nat.le_of_ble_eq_true rfl⟩) rfl rfl (fun r3 u1 H1 locs2 hw2 Z3 => ?_)
  clear Z
  subst r3
  have Z4 : zz_S D A s [(mo, .inr (7, [.ref ms, .ref mi, .ref ma, .int 0, .ref mts, .ref mtz, .ref mtn, .ref mh, .ref mhn, .ref mhw, .ref mhz, .ref mhr, .ref mcl, .ref mtp, .int 0, .int 0, .int 0, .int 0, .int 0, .int 0, .int 0, .int 0, .int 0, .int 0, .int 0, .ref mna, .ref mpi, .ref mca, .ref mwa, .int 0, .ref mrd])), (mts, .inl (k_mts, 4, .inl tsf))] [(k_mts, .int)] H1 locs2 := Z3
  clear Z3
  by_cases w4 : 0 ≤ sheet ∧ sheet ≤ 3
  · obtain ⟨j, hj, e5⟩ := zz_rng 3 w4 (by decide)
    rcases (show j = 0 ∨ j = 1 ∨ j = 2 ∨ j = 3 by omega) with rfl | rfl | rfl | rfl
    · have e5 : sheet = 0 := e5
      subst e5
      refine zz_v (v := 1) (by decide) ?_
      refine lv_if_ne (tgt := 10) hx hb dX7_reads_4 (by decide) (fun _ => ?_) (fun h => absurd h (by decide))
      refine lv_aload_n hx hb dX7_reads_10 rfl (lv_at hl 0 rfl) ?_
      refine zz_get X Z4 0 rfl rfl (fun w h => List.mem_cons_of_mem _ (List.mem_append_right _ h)) 4 rfl (zz_m 2 rfl) rfl dX7_reads_11 ?_
      refine lv_iload_n hx hb dX7_reads_14 rfl (lv_at hl 1 rfl) ?_
      refine zz_ild X Z4 1 0 rfl rfl (zz_in 0 4 rfl) dX7_reads_15 ?_
      refine zz_v (v := (-1)) atsf_0 ?_
      refine lv_if_ge (tgt := 23) hx hb dX7_reads_16 (by decide) (fun h => absurd h (by decide)) (fun _ => ?_)
      refine lv_ldcw (v := (-1000000011)) hx hb hown (hts _ (zz_m 3 rfl)) dX7_reads_19 ?_
      exact zz_iret X hr hlk Z4 () (by simp [sp_sh]) [] [] (by decide +kernel) rfl rfl dX7_reads_22
    · have e5 : sheet = 1 := e5
      subst e5
      refine zz_v (v := 1) (by decide) ?_
      refine lv_if_ne (tgt := 10) hx hb dX7_reads_4 (by decide) (fun _ => ?_) (fun h => absurd h (by decide))
      refine lv_aload_n hx hb dX7_reads_10 rfl (lv_at hl 0 rfl) ?_
      refine zz_get X Z4 0 rfl rfl (fun w h => List.mem_cons_of_mem _ (List.mem_append_right _ h)) 4 rfl (zz_m 2 rfl) rfl dX7_reads_11 ?_
      refine lv_iload_n hx hb dX7_reads_14 rfl (lv_at hl 1 rfl) ?_
      refine zz_ild X Z4 1 0 rfl rfl (zz_in 1 4 rfl) dX7_reads_15 ?_
      refine zz_v (v := (-1)) atsf_1 ?_
      refine lv_if_ge (tgt := 23) hx hb dX7_reads_16 (by decide) (fun h => absurd h (by decide)) (fun _ => ?_)
      refine lv_ldcw (v := (-1000000011)) hx hb hown (hts _ (zz_m 3 rfl)) dX7_reads_19 ?_
      exact zz_iret X hr hlk Z4 () (by simp [sp_sh]) [] [] (by decide +kernel) rfl rfl dX7_reads_22
    · have e5 : sheet = 2 := e5
      subst e5
      refine zz_v (v := 1) (by decide) ?_
      refine lv_if_ne (tgt := 10) hx hb dX7_reads_4 (by decide) (fun _ => ?_) (fun h => absurd h (by decide))
      refine lv_aload_n hx hb dX7_reads_10 rfl (lv_at hl 0 rfl) ?_
      refine zz_get X Z4 0 rfl rfl (fun w h => List.mem_cons_of_mem _ (List.mem_append_right _ h)) 4 rfl (zz_m 2 rfl) rfl dX7_reads_11 ?_
      refine lv_iload_n hx hb dX7_reads_14 rfl (lv_at hl 1 rfl) ?_
      refine zz_ild X Z4 1 0 rfl rfl (zz_in 2 4 rfl) dX7_reads_15 ?_
      refine zz_v (v := (-1)) atsf_2 ?_
      refine lv_if_ge (tgt := 23) hx hb dX7_reads_16 (by decide) (fun h => absurd h (by decide)) (fun _ => ?_)
      refine lv_ldcw (v := (-1000000011)) hx hb hown (hts _ (zz_m 3 rfl)) dX7_reads_19 ?_
      exact zz_iret X hr hlk Z4 () (by simp [sp_sh]) [] [] (by decide +kernel) rfl rfl dX7_reads_22
    · have e5 : sheet = 3 := e5
      subst e5
      refine zz_v (v := 1) (by decide) ?_
      refine lv_if_ne (tgt := 10) hx hb dX7_reads_4 (by decide) (fun _ => ?_) (fun h => absurd h (by decide))
      refine lv_aload_n hx hb dX7_reads_10 rfl (lv_at hl 0 rfl) ?_
      refine zz_get X Z4 0 rfl rfl (fun w h => List.mem_cons_of_mem _ (List.mem_append_right _ h)) 4 rfl (zz_m 2 rfl) rfl dX7_reads_11 ?_
      refine lv_iload_n hx hb dX7_reads_14 rfl (lv_at hl 1 rfl) ?_
      refine zz_ild X Z4 1 0 rfl rfl (zz_in 3 4 rfl) dX7_reads_15 ?_
      refine zz_v (v := (-1)) atsf_3 ?_
      refine lv_if_ge (tgt := 23) hx hb dX7_reads_16 (by decide) (fun h => absurd h (by decide)) (fun _ => ?_)
      refine lv_ldcw (v := (-1000000011)) hx hb hown (hts _ (zz_m 3 rfl)) dX7_reads_19 ?_
      exact zz_iret X hr hlk Z4 () (by simp [sp_sh]) [] [] (by decide +kernel) rfl rfl dX7_reads_22
  · refine zz_v (v := 0) (zz_wiF w4) ?_
    refine lv_if_ne (tgt := 10) hx hb dX7_reads_4 (by decide) (fun h => absurd (by decide) h) (fun _ => ?_)
    refine lv_ldc (v := (-1000000001)) hx hb hown (hts _ (zz_m 1 rfl)) dX7_reads_7 ?_
    exact zz_iret X hr hlk Z4 () (by simp [sp_sh, w4]) [] [] (by decide +kernel) rfl rfl dX7_reads_9

set_option maxHeartbeats 4000000 in
set_option maxRecDepth 100000 in
theorem c7_whose (l : Launch) (D : va_G) (mo : Nat) (ms : Nat) (mi : Nat) (ma : Nat) (mts : Nat) (mtz : Nat) (mtn : Nat) (mh : Nat) (mhn : Nat) (mhw : Nat) (mhz : Nat) (mhr : Nat) (mcl : Nat) (mtp : Nat) (mna : Nat) (mpi : Nat) (mca : Nat) (mwa : Nat) (mrd : Nat) (k_mts : ClassId) (tsf : (Nat → Int32)) (sheet : Int32) (n : Int32) (what : Int32) (atsf_0 : tsf 0 = (-1)) (atsf_1 : tsf 1 = (-1)) (atsf_2 : tsf 2 = (-1)) (atsf_3 : tsf 3 = (-1)) : zz_MI l yX7_whose wsX7_whose 2 45 0 0 D [.ref mo, .int sheet, .int n, .int what] [(mo, .inr (7, [.ref ms, .ref mi, .ref ma, .int 0, .ref mts, .ref mtz, .ref mtn, .ref mh, .ref mhn, .ref mhw, .ref mhz, .ref mhr, .ref mcl, .ref mtp, .int 0, .int 0, .int 0, .int 0, .int 0, .int 0, .int 0, .int 0, .int 0, .int 0, .int 0, .ref mna, .ref mpi, .ref mca, .ref mwa, .int 0, .ref mrd])), (mts, .inl (k_mts, 4, .inl tsf))] [(k_mts, .int)] (fun (r : Int32) (u : Unit) => r = sp_whose sheet n what) (fun (u : Unit) => []) (fun (u : Unit) => []) := by
  intro sz
  refine Met.ofW (cc := cX7_whose) (maxL := 10) (ret := (some .int)) (by decide) rfl ?_
  intro p e s m args below meth c s₁ B hml hv
  obtain ⟨rfl, hC⟩ := hv
  have hx := B.exec
  have hb := B.bytes
  have hr := B.returns
  have hts := atoms_spec (ws := wsX7_whose) B.pre
  have hown : s.vm.findClass RX7 = some m.cls := findClass_of_methodNamed B.named
  have hlk := B.notSynchronized
  have X : CallFix p m c cX7_whose 10 s _ wsX7_whose RX7 := ⟨hx, hb, hml, hown, hts⟩
  have Z := zz_enter hC
  generalize va_A [(mo, .inr (7, [.ref ms, .ref mi, .ref ma, .int 0, .ref mts, .ref mtz, .ref mtn, .ref mh, .ref mhn, .ref mhw, .ref mhz, .ref mhr, .ref mcl, .ref mtp, .int 0, .int 0, .int 0, .int 0, .int 0, .int 0, .int 0, .int 0, .int 0, .int 0, .int 0, .ref mna, .ref mpi, .ref mca, .ref mwa, .int 0, .ref mrd])), (mts, .inl (k_mts, 4, .inl tsf))] sz = A at Z ⊢
  have hl := lv_entry ([.ref mo, .int sheet, .int n, .int what]) (n := 10) (Nat.le_of_ble_eq_true rfl)
  rw [lg_entry_eq]
  generalize (lg_sl ([.ref mo, .int sheet, .int n, .int what]) ++ List.replicate (10 - (lg_sl ([.ref mo, .int sheet, .int n, .int what])).length) Slot.unset).toArray = ls at hl ⊢
  have hl : lv_has ls 10 [(0, .ref mo), (1, .int sheet), (2, .int n), (3, .int what)] := hl
  refine lv_iload_n hx hb dX7_whose_0 rfl (lv_at hl 1 rfl) ?_
  refine zz_ci (WC := []) (TC := []) (WR := [(mo, .inr (7, [.ref ms, .ref mi, .ref ma, .int 0, .ref mts, .ref mtz, .ref mtn, .ref mh, .ref mhn, .ref mhw, .ref mhz, .ref mhr, .ref mcl, .ref mtp, .int 0, .int 0, .int 0, .int 0, .int 0, .int 0, .int 0, .int 0, .int 0, .int 0, .int 0, .ref mna, .ref mpi, .ref mca, .ref mwa, .int 0, .ref mrd])), (mts, .inl (k_mts, 4, .inl tsf))]) (TR := [(k_mts, .int)]) (k := 0) (n := 0) Z [] [0, 1] [] [0] rfl rfl (by decide +kernel) (by decide +kernel) (by decide +kernel) rfl rfl (fun Zc => va_runS (As := [.int sheet]) (rest := []) X (c7_isSheet l D sheet s.heap.size) (va_cwS 1 hts gX7_whose_X7_isSheet rfl rfl rfl zh_X7_isSheet ⟨Nat.le_of_ble_eq_true rfl, Nat.le_of_ble_eq_true rfl⟩) (zz_pS Zc) rfl rfl hl.1 rfl (lv_room (Nat.le_of_ble_eq_true rfl)) dX7_whose_1 ⟨Nat.le_of_ble_eq_true rfl, Nat.le_of_ble_eq_true rfl⟩) rfl rfl (fun r3 u1 H1 locs2 hw2 Z3 => ?_)
  clear Z
  subst r3
  have Z4 : zz_S D A s [(mo, .inr (7, [.ref ms, .ref mi, .ref ma, .int 0, .ref mts, .ref mtz, .ref mtn, .ref mh, .ref mhn, .ref mhw, .ref mhz, .ref mhr, .ref mcl, .ref mtp, .int 0, .int 0, .int 0, .int 0, .int 0, .int 0, .int 0, .int 0, .int 0, .int 0, .int 0, .ref mna, .ref mpi, .ref mca, .ref mwa, .int 0, .ref mrd])), (mts, .inl (k_mts, 4, .inl tsf))] [(k_mts, .int)] H1 locs2 := Z3
  clear Z3
  by_cases w4 : 0 ≤ sheet ∧ sheet ≤ 3
  · obtain ⟨j, hj, e5⟩ := zz_rng 3 w4 (by decide)
    rcases (show j = 0 ∨ j = 1 ∨ j = 2 ∨ j = 3 by omega) with rfl | rfl | rfl | rfl
    · have e5 : sheet = 0 := e5
      subst e5
      refine zz_v (v := 1) (by decide) ?_
      refine lv_if_eq (tgt := 29) hx hb dX7_whose_4 (by decide) (fun h => absurd h (by decide)) (fun _ => ?_)
      refine lv_iload_n hx hb dX7_whose_7 rfl (lv_at hl 2 rfl) ?_
      refine lv_i2l (v := Int32.toInt64 n) hx hb dX7_whose_8 rfl ?_
      refine lv_lconst (v := 0) hx hb dX7_whose_9 (by decide) ?_
      refine zz_vl (v := Int32.toInt64 0) (by decide) ?_
      refine lv_ldc2 (v := 60) hx hb hown (hts _ (zz_m 1 rfl)) dX7_whose_10 ?_
      refine zz_vl (v := Int32.toInt64 60) (by decide) ?_
      refine zz_ci (WC := []) (TC := []) (WR := [(mo, .inr (7, [.ref ms, .ref mi, .ref ma, .int 0, .ref mts, .ref mtz, .ref mtn, .ref mh, .ref mhn, .ref mhw, .ref mhz, .ref mhr, .ref mcl, .ref mtp, .int 0, .int 0, .int 0, .int 0, .int 0, .int 0, .int 0, .int 0, .int 0, .int 0, .int 0, .ref mna, .ref mpi, .ref mca, .ref mwa, .int 0, .ref mrd])), (mts, .inl (k_mts, 4, .inl tsf))]) (TR := [(k_mts, .int)]) (k := 0) (n := 0) Z4 [] [0, 1] [] [0] rfl rfl (by decide +kernel) (by decide +kernel) (by decide +kernel) rfl rfl (fun Zc => va_runS (As := [.long (Int32.toInt64 n), .long (Int32.toInt64 0), .long (Int32.toInt64 60)]) (rest := []) X (c_isIn l D n 0 60 H1.size) (va_cwS 3 hts gX7_whose_X7_isIn rfl rfl rfl zh_X7_isIn ⟨Nat.le_of_ble_eq_true rfl, Nat.le_of_ble_eq_true rfl⟩) (zz_pS Zc) rfl rfl hl.1 rfl (lv_room (Nat.le_of_ble_eq_true rfl)) dX7_whose_13 ⟨Nat.le_of_ble_eq_true rfl, Nat.le_of_ble_eq_true rfl⟩) rfl rfl (fun r8 u6 H5 locs6 hw7 Z7 => ?_)
      clear Z4
      subst r8
      have Z8 : zz_S D A s [(mo, .inr (7, [.ref ms, .ref mi, .ref ma, .int 0, .ref mts, .ref mtz, .ref mtn, .ref mh, .ref mhn, .ref mhw, .ref mhz, .ref mhr, .ref mcl, .ref mtp, .int 0, .int 0, .int 0, .int 0, .int 0, .int 0, .int 0, .int 0, .int 0, .int 0, .int 0, .ref mna, .ref mpi, .ref mca, .ref mwa, .int 0, .ref mrd])), (mts, .inl (k_mts, 4, .inl tsf))] [(k_mts, .int)] H5 locs6 := Z7
      clear Z7
      by_cases w9 : 0 ≤ n ∧ n ≤ 60
      · refine zz_v (v := 1) (zz_wiT w9) ?_
        refine lv_if_eq (tgt := 29) hx hb dX7_whose_16 (by decide) (fun h => absurd h (by decide)) (fun _ => ?_)
        refine lv_iload_n hx hb dX7_whose_19 rfl (lv_at hl 3 rfl) ?_
        refine lv_i2l (v := Int32.toInt64 what) hx hb dX7_whose_20 rfl ?_
        refine lv_lconst (v := 0) hx hb dX7_whose_21 (by decide) ?_
        refine zz_vl (v := Int32.toInt64 0) (by decide) ?_
        refine lv_lconst (v := 1) hx hb dX7_whose_22 (by decide) ?_
        refine zz_vl (v := Int32.toInt64 1) (by decide) ?_
        refine zz_ci (WC := []) (TC := []) (WR := [(mo, .inr (7, [.ref ms, .ref mi, .ref ma, .int 0, .ref mts, .ref mtz, .ref mtn, .ref mh, .ref mhn, .ref mhw, .ref mhz, .ref mhr, .ref mcl, .ref mtp, .int 0, .int 0, .int 0, .int 0, .int 0, .int 0, .int 0, .int 0, .int 0, .int 0, .int 0, .ref mna, .ref mpi, .ref mca, .ref mwa, .int 0, .ref mrd])), (mts, .inl (k_mts, 4, .inl tsf))]) (TR := [(k_mts, .int)]) (k := 0) (n := 0) Z8 [] [0, 1] [] [0] rfl rfl (by decide +kernel) (by decide +kernel) (by decide +kernel) rfl rfl (fun Zc => va_runS (As := [.long (Int32.toInt64 what), .long (Int32.toInt64 0), .long (Int32.toInt64 1)]) (rest := []) X (c_isIn l D what 0 1 H5.size) (va_cwS 3 hts gX7_whose_X7_isIn rfl rfl rfl zh_X7_isIn ⟨Nat.le_of_ble_eq_true rfl, Nat.le_of_ble_eq_true rfl⟩) (zz_pS Zc) rfl rfl hl.1 rfl (lv_room (Nat.le_of_ble_eq_true rfl)) dX7_whose_23 ⟨Nat.le_of_ble_eq_true rfl, Nat.le_of_ble_eq_true rfl⟩) rfl rfl (fun r12 u10 H9 locs10 hw11 Z11 => ?_)
        clear Z8
        subst r12
        have Z12 : zz_S D A s [(mo, .inr (7, [.ref ms, .ref mi, .ref ma, .int 0, .ref mts, .ref mtz, .ref mtn, .ref mh, .ref mhn, .ref mhw, .ref mhz, .ref mhr, .ref mcl, .ref mtp, .int 0, .int 0, .int 0, .int 0, .int 0, .int 0, .int 0, .int 0, .int 0, .int 0, .int 0, .ref mna, .ref mpi, .ref mca, .ref mwa, .int 0, .ref mrd])), (mts, .inl (k_mts, 4, .inl tsf))] [(k_mts, .int)] H9 locs10 := Z11
        clear Z11
        by_cases w13 : 0 ≤ what ∧ what ≤ 1
        · refine zz_v (v := 1) (zz_wiT w13) ?_
          refine lv_if_ne (tgt := 32) hx hb dX7_whose_26 (by decide) (fun _ => ?_) (fun h => absurd h (by decide))
          refine lv_aload_n hx hb dX7_whose_32 rfl (lv_at hl 0 rfl) ?_
          refine zz_get X Z12 0 rfl rfl (fun w h => List.mem_cons_of_mem _ (List.mem_append_right _ h)) 4 rfl (zz_m 3 rfl) rfl dX7_whose_33 ?_
          refine lv_iload_n hx hb dX7_whose_36 rfl (lv_at hl 1 rfl) ?_
          refine zz_ild X Z12 1 0 rfl rfl (zz_in 0 4 rfl) dX7_whose_37 ?_
          refine zz_v (v := (-1)) atsf_0 ?_
          refine lv_if_ge (tgt := 45) hx hb dX7_whose_38 (by decide) (fun h => absurd h (by decide)) (fun _ => ?_)
          refine lv_ldcw (v := (-1000000011)) hx hb hown (hts _ (zz_m 4 rfl)) dX7_whose_41 ?_
          exact zz_iret X hr hlk Z12 () (by simp [sp_whose, w9, w13]) [] [] (by decide +kernel) rfl rfl dX7_whose_44
        · refine zz_v (v := 0) (zz_wiF w13) ?_
          refine lv_if_ne (tgt := 32) hx hb dX7_whose_26 (by decide) (fun h => absurd (by decide) h) (fun _ => ?_)
          refine lv_ldc (v := (-1000000001)) hx hb hown (hts _ (zz_m 2 rfl)) dX7_whose_29 ?_
          exact zz_iret X hr hlk Z12 () (by simp [sp_whose, w9, w13]) [] [] (by decide +kernel) rfl rfl dX7_whose_31
      · refine zz_v (v := 0) (zz_wiF w9) ?_
        refine lv_if_eq (tgt := 29) hx hb dX7_whose_16 (by decide) (fun _ => ?_) (fun h => absurd (by decide) h)
        refine lv_ldc (v := (-1000000001)) hx hb hown (hts _ (zz_m 2 rfl)) dX7_whose_29 ?_
        exact zz_iret X hr hlk Z8 () (by simp [sp_whose, w9]) [] [] (by decide +kernel) rfl rfl dX7_whose_31
    · have e5 : sheet = 1 := e5
      subst e5
      refine zz_v (v := 1) (by decide) ?_
      refine lv_if_eq (tgt := 29) hx hb dX7_whose_4 (by decide) (fun h => absurd h (by decide)) (fun _ => ?_)
      refine lv_iload_n hx hb dX7_whose_7 rfl (lv_at hl 2 rfl) ?_
      refine lv_i2l (v := Int32.toInt64 n) hx hb dX7_whose_8 rfl ?_
      refine lv_lconst (v := 0) hx hb dX7_whose_9 (by decide) ?_
      refine zz_vl (v := Int32.toInt64 0) (by decide) ?_
      refine lv_ldc2 (v := 60) hx hb hown (hts _ (zz_m 1 rfl)) dX7_whose_10 ?_
      refine zz_vl (v := Int32.toInt64 60) (by decide) ?_
      refine zz_ci (WC := []) (TC := []) (WR := [(mo, .inr (7, [.ref ms, .ref mi, .ref ma, .int 0, .ref mts, .ref mtz, .ref mtn, .ref mh, .ref mhn, .ref mhw, .ref mhz, .ref mhr, .ref mcl, .ref mtp, .int 0, .int 0, .int 0, .int 0, .int 0, .int 0, .int 0, .int 0, .int 0, .int 0, .int 0, .ref mna, .ref mpi, .ref mca, .ref mwa, .int 0, .ref mrd])), (mts, .inl (k_mts, 4, .inl tsf))]) (TR := [(k_mts, .int)]) (k := 0) (n := 0) Z4 [] [0, 1] [] [0] rfl rfl (by decide +kernel) (by decide +kernel) (by decide +kernel) rfl rfl (fun Zc => va_runS (As := [.long (Int32.toInt64 n), .long (Int32.toInt64 0), .long (Int32.toInt64 60)]) (rest := []) X (c_isIn l D n 0 60 H1.size) (va_cwS 3 hts gX7_whose_X7_isIn rfl rfl rfl zh_X7_isIn ⟨Nat.le_of_ble_eq_true rfl, Nat.le_of_ble_eq_true rfl⟩) (zz_pS Zc) rfl rfl hl.1 rfl (lv_room (Nat.le_of_ble_eq_true rfl)) dX7_whose_13 ⟨Nat.le_of_ble_eq_true rfl, Nat.le_of_ble_eq_true rfl⟩) rfl rfl (fun r16 u14 H13 locs14 hw15 Z15 => ?_)
      clear Z4
      subst r16
      have Z16 : zz_S D A s [(mo, .inr (7, [.ref ms, .ref mi, .ref ma, .int 0, .ref mts, .ref mtz, .ref mtn, .ref mh, .ref mhn, .ref mhw, .ref mhz, .ref mhr, .ref mcl, .ref mtp, .int 0, .int 0, .int 0, .int 0, .int 0, .int 0, .int 0, .int 0, .int 0, .int 0, .int 0, .ref mna, .ref mpi, .ref mca, .ref mwa, .int 0, .ref mrd])), (mts, .inl (k_mts, 4, .inl tsf))] [(k_mts, .int)] H13 locs14 := Z15
      clear Z15
      by_cases w17 : 0 ≤ n ∧ n ≤ 60
      · refine zz_v (v := 1) (zz_wiT w17) ?_
        refine lv_if_eq (tgt := 29) hx hb dX7_whose_16 (by decide) (fun h => absurd h (by decide)) (fun _ => ?_)
        refine lv_iload_n hx hb dX7_whose_19 rfl (lv_at hl 3 rfl) ?_
        refine lv_i2l (v := Int32.toInt64 what) hx hb dX7_whose_20 rfl ?_
        refine lv_lconst (v := 0) hx hb dX7_whose_21 (by decide) ?_
        refine zz_vl (v := Int32.toInt64 0) (by decide) ?_
        refine lv_lconst (v := 1) hx hb dX7_whose_22 (by decide) ?_
        refine zz_vl (v := Int32.toInt64 1) (by decide) ?_
        refine zz_ci (WC := []) (TC := []) (WR := [(mo, .inr (7, [.ref ms, .ref mi, .ref ma, .int 0, .ref mts, .ref mtz, .ref mtn, .ref mh, .ref mhn, .ref mhw, .ref mhz, .ref mhr, .ref mcl, .ref mtp, .int 0, .int 0, .int 0, .int 0, .int 0, .int 0, .int 0, .int 0, .int 0, .int 0, .int 0, .ref mna, .ref mpi, .ref mca, .ref mwa, .int 0, .ref mrd])), (mts, .inl (k_mts, 4, .inl tsf))]) (TR := [(k_mts, .int)]) (k := 0) (n := 0) Z16 [] [0, 1] [] [0] rfl rfl (by decide +kernel) (by decide +kernel) (by decide +kernel) rfl rfl (fun Zc => va_runS (As := [.long (Int32.toInt64 what), .long (Int32.toInt64 0), .long (Int32.toInt64 1)]) (rest := []) X (c_isIn l D what 0 1 H13.size) (va_cwS 3 hts gX7_whose_X7_isIn rfl rfl rfl zh_X7_isIn ⟨Nat.le_of_ble_eq_true rfl, Nat.le_of_ble_eq_true rfl⟩) (zz_pS Zc) rfl rfl hl.1 rfl (lv_room (Nat.le_of_ble_eq_true rfl)) dX7_whose_23 ⟨Nat.le_of_ble_eq_true rfl, Nat.le_of_ble_eq_true rfl⟩) rfl rfl (fun r20 u18 H17 locs18 hw19 Z19 => ?_)
        clear Z16
        subst r20
        have Z20 : zz_S D A s [(mo, .inr (7, [.ref ms, .ref mi, .ref ma, .int 0, .ref mts, .ref mtz, .ref mtn, .ref mh, .ref mhn, .ref mhw, .ref mhz, .ref mhr, .ref mcl, .ref mtp, .int 0, .int 0, .int 0, .int 0, .int 0, .int 0, .int 0, .int 0, .int 0, .int 0, .int 0, .ref mna, .ref mpi, .ref mca, .ref mwa, .int 0, .ref mrd])), (mts, .inl (k_mts, 4, .inl tsf))] [(k_mts, .int)] H17 locs18 := Z19
        clear Z19
        by_cases w21 : 0 ≤ what ∧ what ≤ 1
        · refine zz_v (v := 1) (zz_wiT w21) ?_
          refine lv_if_ne (tgt := 32) hx hb dX7_whose_26 (by decide) (fun _ => ?_) (fun h => absurd h (by decide))
          refine lv_aload_n hx hb dX7_whose_32 rfl (lv_at hl 0 rfl) ?_
          refine zz_get X Z20 0 rfl rfl (fun w h => List.mem_cons_of_mem _ (List.mem_append_right _ h)) 4 rfl (zz_m 3 rfl) rfl dX7_whose_33 ?_
          refine lv_iload_n hx hb dX7_whose_36 rfl (lv_at hl 1 rfl) ?_
          refine zz_ild X Z20 1 0 rfl rfl (zz_in 1 4 rfl) dX7_whose_37 ?_
          refine zz_v (v := (-1)) atsf_1 ?_
          refine lv_if_ge (tgt := 45) hx hb dX7_whose_38 (by decide) (fun h => absurd h (by decide)) (fun _ => ?_)
          refine lv_ldcw (v := (-1000000011)) hx hb hown (hts _ (zz_m 4 rfl)) dX7_whose_41 ?_
          exact zz_iret X hr hlk Z20 () (by simp [sp_whose, w17, w21]) [] [] (by decide +kernel) rfl rfl dX7_whose_44
        · refine zz_v (v := 0) (zz_wiF w21) ?_
          refine lv_if_ne (tgt := 32) hx hb dX7_whose_26 (by decide) (fun h => absurd (by decide) h) (fun _ => ?_)
          refine lv_ldc (v := (-1000000001)) hx hb hown (hts _ (zz_m 2 rfl)) dX7_whose_29 ?_
          exact zz_iret X hr hlk Z20 () (by simp [sp_whose, w17, w21]) [] [] (by decide +kernel) rfl rfl dX7_whose_31
      · refine zz_v (v := 0) (zz_wiF w17) ?_
        refine lv_if_eq (tgt := 29) hx hb dX7_whose_16 (by decide) (fun _ => ?_) (fun h => absurd (by decide) h)
        refine lv_ldc (v := (-1000000001)) hx hb hown (hts _ (zz_m 2 rfl)) dX7_whose_29 ?_
        exact zz_iret X hr hlk Z16 () (by simp [sp_whose, w17]) [] [] (by decide +kernel) rfl rfl dX7_whose_31
    · have e5 : sheet = 2 := e5
      subst e5
      refine zz_v (v := 1) (by decide) ?_
      refine lv_if_eq (tgt := 29) hx hb dX7_whose_4 (by decide) (fun h => absurd h (by decide)) (fun _ => ?_)
      refine lv_iload_n hx hb dX7_whose_7 rfl (lv_at hl 2 rfl) ?_
      refine lv_i2l (v := Int32.toInt64 n) hx hb dX7_whose_8 rfl ?_
      refine lv_lconst (v := 0) hx hb dX7_whose_9 (by decide) ?_
      refine zz_vl (v := Int32.toInt64 0) (by decide) ?_
      refine lv_ldc2 (v := 60) hx hb hown (hts _ (zz_m 1 rfl)) dX7_whose_10 ?_
      refine zz_vl (v := Int32.toInt64 60) (by decide) ?_
      refine zz_ci (WC := []) (TC := []) (WR := [(mo, .inr (7, [.ref ms, .ref mi, .ref ma, .int 0, .ref mts, .ref mtz, .ref mtn, .ref mh, .ref mhn, .ref mhw, .ref mhz, .ref mhr, .ref mcl, .ref mtp, .int 0, .int 0, .int 0, .int 0, .int 0, .int 0, .int 0, .int 0, .int 0, .int 0, .int 0, .ref mna, .ref mpi, .ref mca, .ref mwa, .int 0, .ref mrd])), (mts, .inl (k_mts, 4, .inl tsf))]) (TR := [(k_mts, .int)]) (k := 0) (n := 0) Z4 [] [0, 1] [] [0] rfl rfl (by decide +kernel) (by decide +kernel) (by decide +kernel) rfl rfl (fun Zc => va_runS (As := [.long (Int32.toInt64 n), .long (Int32.toInt64 0), .long (Int32.toInt64 60)]) (rest := []) X (c_isIn l D n 0 60 H1.size) (va_cwS 3 hts gX7_whose_X7_isIn rfl rfl rfl zh_X7_isIn ⟨Nat.le_of_ble_eq_true rfl, Nat.le_of_ble_eq_true rfl⟩) (zz_pS Zc) rfl rfl hl.1 rfl (lv_room (Nat.le_of_ble_eq_true rfl)) dX7_whose_13 ⟨Nat.le_of_ble_eq_true rfl, Nat.le_of_ble_eq_true rfl⟩) rfl rfl (fun r24 u22 H21 locs22 hw23 Z23 => ?_)
      clear Z4
      subst r24
      have Z24 : zz_S D A s [(mo, .inr (7, [.ref ms, .ref mi, .ref ma, .int 0, .ref mts, .ref mtz, .ref mtn, .ref mh, .ref mhn, .ref mhw, .ref mhz, .ref mhr, .ref mcl, .ref mtp, .int 0, .int 0, .int 0, .int 0, .int 0, .int 0, .int 0, .int 0, .int 0, .int 0, .int 0, .ref mna, .ref mpi, .ref mca, .ref mwa, .int 0, .ref mrd])), (mts, .inl (k_mts, 4, .inl tsf))] [(k_mts, .int)] H21 locs22 := Z23
      clear Z23
      by_cases w25 : 0 ≤ n ∧ n ≤ 60
      · refine zz_v (v := 1) (zz_wiT w25) ?_
        refine lv_if_eq (tgt := 29) hx hb dX7_whose_16 (by decide) (fun h => absurd h (by decide)) (fun _ => ?_)
        refine lv_iload_n hx hb dX7_whose_19 rfl (lv_at hl 3 rfl) ?_
        refine lv_i2l (v := Int32.toInt64 what) hx hb dX7_whose_20 rfl ?_
        refine lv_lconst (v := 0) hx hb dX7_whose_21 (by decide) ?_
        refine zz_vl (v := Int32.toInt64 0) (by decide) ?_
        refine lv_lconst (v := 1) hx hb dX7_whose_22 (by decide) ?_
        refine zz_vl (v := Int32.toInt64 1) (by decide) ?_
        refine zz_ci (WC := []) (TC := []) (WR := [(mo, .inr (7, [.ref ms, .ref mi, .ref ma, .int 0, .ref mts, .ref mtz, .ref mtn, .ref mh, .ref mhn, .ref mhw, .ref mhz, .ref mhr, .ref mcl, .ref mtp, .int 0, .int 0, .int 0, .int 0, .int 0, .int 0, .int 0, .int 0, .int 0, .int 0, .int 0, .ref mna, .ref mpi, .ref mca, .ref mwa, .int 0, .ref mrd])), (mts, .inl (k_mts, 4, .inl tsf))]) (TR := [(k_mts, .int)]) (k := 0) (n := 0) Z24 [] [0, 1] [] [0] rfl rfl (by decide +kernel) (by decide +kernel) (by decide +kernel) rfl rfl (fun Zc => va_runS (As := [.long (Int32.toInt64 what), .long (Int32.toInt64 0), .long (Int32.toInt64 1)]) (rest := []) X (c_isIn l D what 0 1 H21.size) (va_cwS 3 hts gX7_whose_X7_isIn rfl rfl rfl zh_X7_isIn ⟨Nat.le_of_ble_eq_true rfl, Nat.le_of_ble_eq_true rfl⟩) (zz_pS Zc) rfl rfl hl.1 rfl (lv_room (Nat.le_of_ble_eq_true rfl)) dX7_whose_23 ⟨Nat.le_of_ble_eq_true rfl, Nat.le_of_ble_eq_true rfl⟩) rfl rfl (fun r28 u26 H25 locs26 hw27 Z27 => ?_)
        clear Z24
        subst r28
        have Z28 : zz_S D A s [(mo, .inr (7, [.ref ms, .ref mi, .ref ma, .int 0, .ref mts, .ref mtz, .ref mtn, .ref mh, .ref mhn, .ref mhw, .ref mhz, .ref mhr, .ref mcl, .ref mtp, .int 0, .int 0, .int 0, .int 0, .int 0, .int 0, .int 0, .int 0, .int 0, .int 0, .int 0, .ref mna, .ref mpi, .ref mca, .ref mwa, .int 0, .ref mrd])), (mts, .inl (k_mts, 4, .inl tsf))] [(k_mts, .int)] H25 locs26 := Z27
        clear Z27
        by_cases w29 : 0 ≤ what ∧ what ≤ 1
        · refine zz_v (v := 1) (zz_wiT w29) ?_
          refine lv_if_ne (tgt := 32) hx hb dX7_whose_26 (by decide) (fun _ => ?_) (fun h => absurd h (by decide))
          refine lv_aload_n hx hb dX7_whose_32 rfl (lv_at hl 0 rfl) ?_
          refine zz_get X Z28 0 rfl rfl (fun w h => List.mem_cons_of_mem _ (List.mem_append_right _ h)) 4 rfl (zz_m 3 rfl) rfl dX7_whose_33 ?_
          refine lv_iload_n hx hb dX7_whose_36 rfl (lv_at hl 1 rfl) ?_
          refine zz_ild X Z28 1 0 rfl rfl (zz_in 2 4 rfl) dX7_whose_37 ?_
          refine zz_v (v := (-1)) atsf_2 ?_
          refine lv_if_ge (tgt := 45) hx hb dX7_whose_38 (by decide) (fun h => absurd h (by decide)) (fun _ => ?_)
          refine lv_ldcw (v := (-1000000011)) hx hb hown (hts _ (zz_m 4 rfl)) dX7_whose_41 ?_
          exact zz_iret X hr hlk Z28 () (by simp [sp_whose, w25, w29]) [] [] (by decide +kernel) rfl rfl dX7_whose_44
        · refine zz_v (v := 0) (zz_wiF w29) ?_
          refine lv_if_ne (tgt := 32) hx hb dX7_whose_26 (by decide) (fun h => absurd (by decide) h) (fun _ => ?_)
          refine lv_ldc (v := (-1000000001)) hx hb hown (hts _ (zz_m 2 rfl)) dX7_whose_29 ?_
          exact zz_iret X hr hlk Z28 () (by simp [sp_whose, w25, w29]) [] [] (by decide +kernel) rfl rfl dX7_whose_31
      · refine zz_v (v := 0) (zz_wiF w25) ?_
        refine lv_if_eq (tgt := 29) hx hb dX7_whose_16 (by decide) (fun _ => ?_) (fun h => absurd (by decide) h)
        refine lv_ldc (v := (-1000000001)) hx hb hown (hts _ (zz_m 2 rfl)) dX7_whose_29 ?_
        exact zz_iret X hr hlk Z24 () (by simp [sp_whose, w25]) [] [] (by decide +kernel) rfl rfl dX7_whose_31
    · have e5 : sheet = 3 := e5
      subst e5
      refine zz_v (v := 1) (by decide) ?_
      refine lv_if_eq (tgt := 29) hx hb dX7_whose_4 (by decide) (fun h => absurd h (by decide)) (fun _ => ?_)
      refine lv_iload_n hx hb dX7_whose_7 rfl (lv_at hl 2 rfl) ?_
      refine lv_i2l (v := Int32.toInt64 n) hx hb dX7_whose_8 rfl ?_
      refine lv_lconst (v := 0) hx hb dX7_whose_9 (by decide) ?_
      refine zz_vl (v := Int32.toInt64 0) (by decide) ?_
      refine lv_ldc2 (v := 60) hx hb hown (hts _ (zz_m 1 rfl)) dX7_whose_10 ?_
      refine zz_vl (v := Int32.toInt64 60) (by decide) ?_
      refine zz_ci (WC := []) (TC := []) (WR := [(mo, .inr (7, [.ref ms, .ref mi, .ref ma, .int 0, .ref mts, .ref mtz, .ref mtn, .ref mh, .ref mhn, .ref mhw, .ref mhz, .ref mhr, .ref mcl, .ref mtp, .int 0, .int 0, .int 0, .int 0, .int 0, .int 0, .int 0, .int 0, .int 0, .int 0, .int 0, .ref mna, .ref mpi, .ref mca, .ref mwa, .int 0, .ref mrd])), (mts, .inl (k_mts, 4, .inl tsf))]) (TR := [(k_mts, .int)]) (k := 0) (n := 0) Z4 [] [0, 1] [] [0] rfl rfl (by decide +kernel) (by decide +kernel) (by decide +kernel) rfl rfl (fun Zc => va_runS (As := [.long (Int32.toInt64 n), .long (Int32.toInt64 0), .long (Int32.toInt64 60)]) (rest := []) X (c_isIn l D n 0 60 H1.size) (va_cwS 3 hts gX7_whose_X7_isIn rfl rfl rfl zh_X7_isIn ⟨Nat.le_of_ble_eq_true rfl, Nat.le_of_ble_eq_true rfl⟩) (zz_pS Zc) rfl rfl hl.1 rfl (lv_room (Nat.le_of_ble_eq_true rfl)) dX7_whose_13 ⟨Nat.le_of_ble_eq_true rfl, Nat.le_of_ble_eq_true rfl⟩) rfl rfl (fun r32 u30 H29 locs30 hw31 Z31 => ?_)
      clear Z4
      subst r32
      have Z32 : zz_S D A s [(mo, .inr (7, [.ref ms, .ref mi, .ref ma, .int 0, .ref mts, .ref mtz, .ref mtn, .ref mh, .ref mhn, .ref mhw, .ref mhz, .ref mhr, .ref mcl, .ref mtp, .int 0, .int 0, .int 0, .int 0, .int 0, .int 0, .int 0, .int 0, .int 0, .int 0, .int 0, .ref mna, .ref mpi, .ref mca, .ref mwa, .int 0, .ref mrd])), (mts, .inl (k_mts, 4, .inl tsf))] [(k_mts, .int)] H29 locs30 := Z31
      clear Z31
      by_cases w33 : 0 ≤ n ∧ n ≤ 60
      · refine zz_v (v := 1) (zz_wiT w33) ?_
        refine lv_if_eq (tgt := 29) hx hb dX7_whose_16 (by decide) (fun h => absurd h (by decide)) (fun _ => ?_)
        refine lv_iload_n hx hb dX7_whose_19 rfl (lv_at hl 3 rfl) ?_
        refine lv_i2l (v := Int32.toInt64 what) hx hb dX7_whose_20 rfl ?_
        refine lv_lconst (v := 0) hx hb dX7_whose_21 (by decide) ?_
        refine zz_vl (v := Int32.toInt64 0) (by decide) ?_
        refine lv_lconst (v := 1) hx hb dX7_whose_22 (by decide) ?_
        refine zz_vl (v := Int32.toInt64 1) (by decide) ?_
        refine zz_ci (WC := []) (TC := []) (WR := [(mo, .inr (7, [.ref ms, .ref mi, .ref ma, .int 0, .ref mts, .ref mtz, .ref mtn, .ref mh, .ref mhn, .ref mhw, .ref mhz, .ref mhr, .ref mcl, .ref mtp, .int 0, .int 0, .int 0, .int 0, .int 0, .int 0, .int 0, .int 0, .int 0, .int 0, .int 0, .ref mna, .ref mpi, .ref mca, .ref mwa, .int 0, .ref mrd])), (mts, .inl (k_mts, 4, .inl tsf))]) (TR := [(k_mts, .int)]) (k := 0) (n := 0) Z32 [] [0, 1] [] [0] rfl rfl (by decide +kernel) (by decide +kernel) (by decide +kernel) rfl rfl (fun Zc => va_runS (As := [.long (Int32.toInt64 what), .long (Int32.toInt64 0), .long (Int32.toInt64 1)]) (rest := []) X (c_isIn l D what 0 1 H29.size) (va_cwS 3 hts gX7_whose_X7_isIn rfl rfl rfl zh_X7_isIn ⟨Nat.le_of_ble_eq_true rfl, Nat.le_of_ble_eq_true rfl⟩) (zz_pS Zc) rfl rfl hl.1 rfl (lv_room (Nat.le_of_ble_eq_true rfl)) dX7_whose_23 ⟨Nat.le_of_ble_eq_true rfl, Nat.le_of_ble_eq_true rfl⟩) rfl rfl (fun r36 u34 H33 locs34 hw35 Z35 => ?_)
        clear Z32
        subst r36
        have Z36 : zz_S D A s [(mo, .inr (7, [.ref ms, .ref mi, .ref ma, .int 0, .ref mts, .ref mtz, .ref mtn, .ref mh, .ref mhn, .ref mhw, .ref mhz, .ref mhr, .ref mcl, .ref mtp, .int 0, .int 0, .int 0, .int 0, .int 0, .int 0, .int 0, .int 0, .int 0, .int 0, .int 0, .ref mna, .ref mpi, .ref mca, .ref mwa, .int 0, .ref mrd])), (mts, .inl (k_mts, 4, .inl tsf))] [(k_mts, .int)] H33 locs34 := Z35
        clear Z35
        by_cases w37 : 0 ≤ what ∧ what ≤ 1
        · refine zz_v (v := 1) (zz_wiT w37) ?_
          refine lv_if_ne (tgt := 32) hx hb dX7_whose_26 (by decide) (fun _ => ?_) (fun h => absurd h (by decide))
          refine lv_aload_n hx hb dX7_whose_32 rfl (lv_at hl 0 rfl) ?_
          refine zz_get X Z36 0 rfl rfl (fun w h => List.mem_cons_of_mem _ (List.mem_append_right _ h)) 4 rfl (zz_m 3 rfl) rfl dX7_whose_33 ?_
          refine lv_iload_n hx hb dX7_whose_36 rfl (lv_at hl 1 rfl) ?_
          refine zz_ild X Z36 1 0 rfl rfl (zz_in 3 4 rfl) dX7_whose_37 ?_
          refine zz_v (v := (-1)) atsf_3 ?_
          refine lv_if_ge (tgt := 45) hx hb dX7_whose_38 (by decide) (fun h => absurd h (by decide)) (fun _ => ?_)
          refine lv_ldcw (v := (-1000000011)) hx hb hown (hts _ (zz_m 4 rfl)) dX7_whose_41 ?_
          exact zz_iret X hr hlk Z36 () (by simp [sp_whose, w33, w37]) [] [] (by decide +kernel) rfl rfl dX7_whose_44
        · refine zz_v (v := 0) (zz_wiF w37) ?_
          refine lv_if_ne (tgt := 32) hx hb dX7_whose_26 (by decide) (fun h => absurd (by decide) h) (fun _ => ?_)
          refine lv_ldc (v := (-1000000001)) hx hb hown (hts _ (zz_m 2 rfl)) dX7_whose_29 ?_
          exact zz_iret X hr hlk Z36 () (by simp [sp_whose, w33, w37]) [] [] (by decide +kernel) rfl rfl dX7_whose_31
      · refine zz_v (v := 0) (zz_wiF w33) ?_
        refine lv_if_eq (tgt := 29) hx hb dX7_whose_16 (by decide) (fun _ => ?_) (fun h => absurd (by decide) h)
        refine lv_ldc (v := (-1000000001)) hx hb hown (hts _ (zz_m 2 rfl)) dX7_whose_29 ?_
        exact zz_iret X hr hlk Z32 () (by simp [sp_whose, w33]) [] [] (by decide +kernel) rfl rfl dX7_whose_31
  · refine zz_v (v := 0) (zz_wiF w4) ?_
    refine lv_if_eq (tgt := 29) hx hb dX7_whose_4 (by decide) (fun _ => ?_) (fun h => absurd (by decide) h)
    refine lv_ldc (v := (-1000000001)) hx hb hown (hts _ (zz_m 2 rfl)) dX7_whose_29 ?_
    exact zz_iret X hr hlk Z4 () (by simp [sp_whose, w4]) [] [] (by decide +kernel) rfl rfl dX7_whose_31

set_option maxHeartbeats 4000000 in
set_option maxRecDepth 100000 in
theorem c7_copy (l : Launch) (D : va_G) (mo : Nat) (ms : Nat) (mi : Nat) (ma : Nat) (mts : Nat) (mtz : Nat) (mtn : Nat) (mh : Nat) (mhn : Nat) (mhw : Nat) (mhz : Nat) (mhr : Nat) (mcl : Nat) (mtp : Nat) (mna : Nat) (mpi : Nat) (mca : Nat) (mwa : Nat) (mrd : Nat) (k_mts : ClassId) (tsf : (Nat → Int32)) (f1 : Int32) (f2 : Int32) (f3 : Int32) (f4 : Int32) (f5 : Int32) (atsf_0 : tsf 0 = (-1)) (atsf_1 : tsf 1 = (-1)) (atsf_2 : tsf 2 = (-1)) (atsf_3 : tsf 3 = (-1)) : zz_MI l yX7_copy wsX7_copy 2 45 0 0 D [.ref mo, .int f1, .int f2, .int f3, .int f4, .int f5] [(mo, .inr (7, [.ref ms, .ref mi, .ref ma, .int 0, .ref mts, .ref mtz, .ref mtn, .ref mh, .ref mhn, .ref mhw, .ref mhz, .ref mhr, .ref mcl, .ref mtp, .int 0, .int 0, .int 0, .int 0, .int 0, .int 0, .int 0, .int 0, .int 0, .int 0, .int 0, .ref mna, .ref mpi, .ref mca, .ref mwa, .int 0, .ref mrd])), (mts, .inl (k_mts, 4, .inl tsf))] [(k_mts, .int)] (fun (r : Int32) (u : Unit) => r = sp_copy f1 f3) (fun (u : Unit) => []) (fun (u : Unit) => []) := by
  intro sz
  refine Met.ofW (cc := cX7_copy) (maxL := 7) (ret := (some .int)) (by decide) rfl ?_
  intro p e s m args below meth c s₁ B hml hv
  obtain ⟨rfl, hC⟩ := hv
  have hx := B.exec
  have hb := B.bytes
  have hr := B.returns
  have hts := atoms_spec (ws := wsX7_copy) B.pre
  have hown : s.vm.findClass RX7 = some m.cls := findClass_of_methodNamed B.named
  have hlk := B.notSynchronized
  have X : CallFix p m c cX7_copy 7 s _ wsX7_copy RX7 := ⟨hx, hb, hml, hown, hts⟩
  have Z := zz_enter hC
  generalize va_A [(mo, .inr (7, [.ref ms, .ref mi, .ref ma, .int 0, .ref mts, .ref mtz, .ref mtn, .ref mh, .ref mhn, .ref mhw, .ref mhz, .ref mhr, .ref mcl, .ref mtp, .int 0, .int 0, .int 0, .int 0, .int 0, .int 0, .int 0, .int 0, .int 0, .int 0, .int 0, .ref mna, .ref mpi, .ref mca, .ref mwa, .int 0, .ref mrd])), (mts, .inl (k_mts, 4, .inl tsf))] sz = A at Z ⊢
  have hl := lv_entry ([.ref mo, .int f1, .int f2, .int f3, .int f4, .int f5]) (n := 7) (Nat.le_of_ble_eq_true rfl)
  rw [lg_entry_eq]
  generalize (lg_sl ([.ref mo, .int f1, .int f2, .int f3, .int f4, .int f5]) ++ List.replicate (7 - (lg_sl ([.ref mo, .int f1, .int f2, .int f3, .int f4, .int f5])).length) Slot.unset).toArray = ls at hl ⊢
  have hl : lv_has ls 7 [(0, .ref mo), (1, .int f1), (2, .int f2), (3, .int f3), (4, .int f4), (5, .int f5)] := hl
  refine lv_iload_n hx hb dX7_copy_0 rfl (lv_at hl 1 rfl) ?_
  refine zz_ci (WC := []) (TC := []) (WR := [(mo, .inr (7, [.ref ms, .ref mi, .ref ma, .int 0, .ref mts, .ref mtz, .ref mtn, .ref mh, .ref mhn, .ref mhw, .ref mhz, .ref mhr, .ref mcl, .ref mtp, .int 0, .int 0, .int 0, .int 0, .int 0, .int 0, .int 0, .int 0, .int 0, .int 0, .int 0, .ref mna, .ref mpi, .ref mca, .ref mwa, .int 0, .ref mrd])), (mts, .inl (k_mts, 4, .inl tsf))]) (TR := [(k_mts, .int)]) (k := 0) (n := 0) Z [] [0, 1] [] [0] rfl rfl (by decide +kernel) (by decide +kernel) (by decide +kernel) rfl rfl (fun Zc => va_runS (As := [.int f1]) (rest := []) X (c7_isSheet l D f1 s.heap.size) (va_cwS 1 hts gX7_copy_X7_isSheet rfl rfl rfl zh_X7_isSheet ⟨Nat.le_of_ble_eq_true rfl, Nat.le_of_ble_eq_true rfl⟩) (zz_pS Zc) rfl rfl hl.1 rfl (lv_room (Nat.le_of_ble_eq_true rfl)) dX7_copy_1 ⟨Nat.le_of_ble_eq_true rfl, Nat.le_of_ble_eq_true rfl⟩) rfl rfl (fun r3 u1 H1 locs2 hw2 Z3 => ?_)
  clear Z
  subst r3
  have Z4 : zz_S D A s [(mo, .inr (7, [.ref ms, .ref mi, .ref ma, .int 0, .ref mts, .ref mtz, .ref mtn, .ref mh, .ref mhn, .ref mhw, .ref mhz, .ref mhr, .ref mcl, .ref mtp, .int 0, .int 0, .int 0, .int 0, .int 0, .int 0, .int 0, .int 0, .int 0, .int 0, .int 0, .ref mna, .ref mpi, .ref mca, .ref mwa, .int 0, .ref mrd])), (mts, .inl (k_mts, 4, .inl tsf))] [(k_mts, .int)] H1 locs2 := Z3
  clear Z3
  by_cases w4 : 0 ≤ f1 ∧ f1 ≤ 3
  · obtain ⟨j, hj, e5⟩ := zz_rng 3 w4 (by decide)
    rcases (show j = 0 ∨ j = 1 ∨ j = 2 ∨ j = 3 by omega) with rfl | rfl | rfl | rfl
    · have e5 : f1 = 0 := e5
      subst e5
      refine zz_v (v := 1) (by decide) ?_
      refine lv_if_eq (tgt := 14) hx hb dX7_copy_4 (by decide) (fun h => absurd h (by decide)) (fun _ => ?_)
      refine lv_iload_n hx hb dX7_copy_7 rfl (lv_at hl 3 rfl) ?_
      refine zz_ci (WC := []) (TC := []) (WR := [(mo, .inr (7, [.ref ms, .ref mi, .ref ma, .int 0, .ref mts, .ref mtz, .ref mtn, .ref mh, .ref mhn, .ref mhw, .ref mhz, .ref mhr, .ref mcl, .ref mtp, .int 0, .int 0, .int 0, .int 0, .int 0, .int 0, .int 0, .int 0, .int 0, .int 0, .int 0, .ref mna, .ref mpi, .ref mca, .ref mwa, .int 0, .ref mrd])), (mts, .inl (k_mts, 4, .inl tsf))]) (TR := [(k_mts, .int)]) (k := 0) (n := 0) Z4 [] [0, 1] [] [0] rfl rfl (by decide +kernel) (by decide +kernel) (by decide +kernel) rfl rfl (fun Zc => va_runS (As := [.int f3]) (rest := []) X (c7_isSheet l D f3 H1.size) (va_cwS 1 hts gX7_copy_X7_isSheet rfl rfl rfl zh_X7_isSheet ⟨Nat.le_of_ble_eq_true rfl, Nat.le_of_ble_eq_true rfl⟩) (zz_pS Zc) rfl rfl hl.1 rfl (lv_room (Nat.le_of_ble_eq_true rfl)) dX7_copy_8 ⟨Nat.le_of_ble_eq_true rfl, Nat.le_of_ble_eq_true rfl⟩) rfl rfl (fun r8 u6 H5 locs6 hw7 Z7 => ?_)
      clear Z4
      subst r8
      have Z8 : zz_S D A s [(mo, .inr (7, [.ref ms, .ref mi, .ref ma, .int 0, .ref mts, .ref mtz, .ref mtn, .ref mh, .ref mhn, .ref mhw, .ref mhz, .ref mhr, .ref mcl, .ref mtp, .int 0, .int 0, .int 0, .int 0, .int 0, .int 0, .int 0, .int 0, .int 0, .int 0, .int 0, .ref mna, .ref mpi, .ref mca, .ref mwa, .int 0, .ref mrd])), (mts, .inl (k_mts, 4, .inl tsf))] [(k_mts, .int)] H5 locs6 := Z7
      clear Z7
      by_cases w9 : 0 ≤ f3 ∧ f3 ≤ 3
      · obtain ⟨j, hj, e10⟩ := zz_rng 3 w9 (by decide)
        rcases (show j = 0 ∨ j = 1 ∨ j = 2 ∨ j = 3 by omega) with rfl | rfl | rfl | rfl
        · have e10 : f3 = 0 := e10
          subst e10
          refine zz_v (v := 1) (by decide) ?_
          refine lv_if_ne (tgt := 17) hx hb dX7_copy_11 (by decide) (fun _ => ?_) (fun h => absurd h (by decide))
          refine lv_aload_n hx hb dX7_copy_17 rfl (lv_at hl 0 rfl) ?_
          refine zz_get X Z8 0 rfl rfl (fun w h => List.mem_cons_of_mem _ (List.mem_append_right _ h)) 4 rfl (zz_m 2 rfl) rfl dX7_copy_18 ?_
          refine lv_iload_n hx hb dX7_copy_21 rfl (lv_at hl 1 rfl) ?_
          refine zz_ild X Z8 1 0 rfl rfl (zz_in 0 4 rfl) dX7_copy_22 ?_
          refine zz_v (v := (-1)) atsf_0 ?_
          refine lv_if_lt (tgt := 35) hx hb dX7_copy_23 (by decide) (fun _ => ?_) (fun h => absurd (by decide) h)
          refine lv_ldcw (v := (-1000000011)) hx hb hown (hts _ (zz_m 3 rfl)) dX7_copy_35 ?_
          exact zz_iret X hr hlk Z8 () (by simp [sp_copy]) [] [] (by decide +kernel) rfl rfl dX7_copy_38
        · have e10 : f3 = 1 := e10
          subst e10
          refine zz_v (v := 1) (by decide) ?_
          refine lv_if_ne (tgt := 17) hx hb dX7_copy_11 (by decide) (fun _ => ?_) (fun h => absurd h (by decide))
          refine lv_aload_n hx hb dX7_copy_17 rfl (lv_at hl 0 rfl) ?_
          refine zz_get X Z8 0 rfl rfl (fun w h => List.mem_cons_of_mem _ (List.mem_append_right _ h)) 4 rfl (zz_m 2 rfl) rfl dX7_copy_18 ?_
          refine lv_iload_n hx hb dX7_copy_21 rfl (lv_at hl 1 rfl) ?_
          refine zz_ild X Z8 1 0 rfl rfl (zz_in 0 4 rfl) dX7_copy_22 ?_
          refine zz_v (v := (-1)) atsf_0 ?_
          refine lv_if_lt (tgt := 35) hx hb dX7_copy_23 (by decide) (fun _ => ?_) (fun h => absurd (by decide) h)
          refine lv_ldcw (v := (-1000000011)) hx hb hown (hts _ (zz_m 3 rfl)) dX7_copy_35 ?_
          exact zz_iret X hr hlk Z8 () (by simp [sp_copy]) [] [] (by decide +kernel) rfl rfl dX7_copy_38
        · have e10 : f3 = 2 := e10
          subst e10
          refine zz_v (v := 1) (by decide) ?_
          refine lv_if_ne (tgt := 17) hx hb dX7_copy_11 (by decide) (fun _ => ?_) (fun h => absurd h (by decide))
          refine lv_aload_n hx hb dX7_copy_17 rfl (lv_at hl 0 rfl) ?_
          refine zz_get X Z8 0 rfl rfl (fun w h => List.mem_cons_of_mem _ (List.mem_append_right _ h)) 4 rfl (zz_m 2 rfl) rfl dX7_copy_18 ?_
          refine lv_iload_n hx hb dX7_copy_21 rfl (lv_at hl 1 rfl) ?_
          refine zz_ild X Z8 1 0 rfl rfl (zz_in 0 4 rfl) dX7_copy_22 ?_
          refine zz_v (v := (-1)) atsf_0 ?_
          refine lv_if_lt (tgt := 35) hx hb dX7_copy_23 (by decide) (fun _ => ?_) (fun h => absurd (by decide) h)
          refine lv_ldcw (v := (-1000000011)) hx hb hown (hts _ (zz_m 3 rfl)) dX7_copy_35 ?_
          exact zz_iret X hr hlk Z8 () (by simp [sp_copy]) [] [] (by decide +kernel) rfl rfl dX7_copy_38
        · have e10 : f3 = 3 := e10
          subst e10
          refine zz_v (v := 1) (by decide) ?_
          refine lv_if_ne (tgt := 17) hx hb dX7_copy_11 (by decide) (fun _ => ?_) (fun h => absurd h (by decide))
          refine lv_aload_n hx hb dX7_copy_17 rfl (lv_at hl 0 rfl) ?_
          refine zz_get X Z8 0 rfl rfl (fun w h => List.mem_cons_of_mem _ (List.mem_append_right _ h)) 4 rfl (zz_m 2 rfl) rfl dX7_copy_18 ?_
          refine lv_iload_n hx hb dX7_copy_21 rfl (lv_at hl 1 rfl) ?_
          refine zz_ild X Z8 1 0 rfl rfl (zz_in 0 4 rfl) dX7_copy_22 ?_
          refine zz_v (v := (-1)) atsf_0 ?_
          refine lv_if_lt (tgt := 35) hx hb dX7_copy_23 (by decide) (fun _ => ?_) (fun h => absurd (by decide) h)
          refine lv_ldcw (v := (-1000000011)) hx hb hown (hts _ (zz_m 3 rfl)) dX7_copy_35 ?_
          exact zz_iret X hr hlk Z8 () (by simp [sp_copy]) [] [] (by decide +kernel) rfl rfl dX7_copy_38
      · refine zz_v (v := 0) (zz_wiF w9) ?_
        refine lv_if_ne (tgt := 17) hx hb dX7_copy_11 (by decide) (fun h => absurd (by decide) h) (fun _ => ?_)
        refine lv_ldc (v := (-1000000001)) hx hb hown (hts _ (zz_m 1 rfl)) dX7_copy_14 ?_
        exact zz_iret X hr hlk Z8 () (by simp [sp_copy, w9]) [] [] (by decide +kernel) rfl rfl dX7_copy_16
    · have e5 : f1 = 1 := e5
      subst e5
      refine zz_v (v := 1) (by decide) ?_
      refine lv_if_eq (tgt := 14) hx hb dX7_copy_4 (by decide) (fun h => absurd h (by decide)) (fun _ => ?_)
      refine lv_iload_n hx hb dX7_copy_7 rfl (lv_at hl 3 rfl) ?_
      refine zz_ci (WC := []) (TC := []) (WR := [(mo, .inr (7, [.ref ms, .ref mi, .ref ma, .int 0, .ref mts, .ref mtz, .ref mtn, .ref mh, .ref mhn, .ref mhw, .ref mhz, .ref mhr, .ref mcl, .ref mtp, .int 0, .int 0, .int 0, .int 0, .int 0, .int 0, .int 0, .int 0, .int 0, .int 0, .int 0, .ref mna, .ref mpi, .ref mca, .ref mwa, .int 0, .ref mrd])), (mts, .inl (k_mts, 4, .inl tsf))]) (TR := [(k_mts, .int)]) (k := 0) (n := 0) Z4 [] [0, 1] [] [0] rfl rfl (by decide +kernel) (by decide +kernel) (by decide +kernel) rfl rfl (fun Zc => va_runS (As := [.int f3]) (rest := []) X (c7_isSheet l D f3 H1.size) (va_cwS 1 hts gX7_copy_X7_isSheet rfl rfl rfl zh_X7_isSheet ⟨Nat.le_of_ble_eq_true rfl, Nat.le_of_ble_eq_true rfl⟩) (zz_pS Zc) rfl rfl hl.1 rfl (lv_room (Nat.le_of_ble_eq_true rfl)) dX7_copy_8 ⟨Nat.le_of_ble_eq_true rfl, Nat.le_of_ble_eq_true rfl⟩) rfl rfl (fun r13 u11 H9 locs10 hw12 Z11 => ?_)
      clear Z4
      subst r13
      have Z12 : zz_S D A s [(mo, .inr (7, [.ref ms, .ref mi, .ref ma, .int 0, .ref mts, .ref mtz, .ref mtn, .ref mh, .ref mhn, .ref mhw, .ref mhz, .ref mhr, .ref mcl, .ref mtp, .int 0, .int 0, .int 0, .int 0, .int 0, .int 0, .int 0, .int 0, .int 0, .int 0, .int 0, .ref mna, .ref mpi, .ref mca, .ref mwa, .int 0, .ref mrd])), (mts, .inl (k_mts, 4, .inl tsf))] [(k_mts, .int)] H9 locs10 := Z11
      clear Z11
      by_cases w14 : 0 ≤ f3 ∧ f3 ≤ 3
      · obtain ⟨j, hj, e15⟩ := zz_rng 3 w14 (by decide)
        rcases (show j = 0 ∨ j = 1 ∨ j = 2 ∨ j = 3 by omega) with rfl | rfl | rfl | rfl
        · have e15 : f3 = 0 := e15
          subst e15
          refine zz_v (v := 1) (by decide) ?_
          refine lv_if_ne (tgt := 17) hx hb dX7_copy_11 (by decide) (fun _ => ?_) (fun h => absurd h (by decide))
          refine lv_aload_n hx hb dX7_copy_17 rfl (lv_at hl 0 rfl) ?_
          refine zz_get X Z12 0 rfl rfl (fun w h => List.mem_cons_of_mem _ (List.mem_append_right _ h)) 4 rfl (zz_m 2 rfl) rfl dX7_copy_18 ?_
          refine lv_iload_n hx hb dX7_copy_21 rfl (lv_at hl 1 rfl) ?_
          refine zz_ild X Z12 1 0 rfl rfl (zz_in 1 4 rfl) dX7_copy_22 ?_
          refine zz_v (v := (-1)) atsf_1 ?_
          refine lv_if_lt (tgt := 35) hx hb dX7_copy_23 (by decide) (fun _ => ?_) (fun h => absurd (by decide) h)
          refine lv_ldcw (v := (-1000000011)) hx hb hown (hts _ (zz_m 3 rfl)) dX7_copy_35 ?_
          exact zz_iret X hr hlk Z12 () (by simp [sp_copy]) [] [] (by decide +kernel) rfl rfl dX7_copy_38
        · have e15 : f3 = 1 := e15
          subst e15
          refine zz_v (v := 1) (by decide) ?_
          refine lv_if_ne (tgt := 17) hx hb dX7_copy_11 (by decide) (fun _ => ?_) (fun h => absurd h (by decide))
          refine lv_aload_n hx hb dX7_copy_17 rfl (lv_at hl 0 rfl) ?_
          refine zz_get X Z12 0 rfl rfl (fun w h => List.mem_cons_of_mem _ (List.mem_append_right _ h)) 4 rfl (zz_m 2 rfl) rfl dX7_copy_18 ?_
          refine lv_iload_n hx hb dX7_copy_21 rfl (lv_at hl 1 rfl) ?_
          refine zz_ild X Z12 1 0 rfl rfl (zz_in 1 4 rfl) dX7_copy_22 ?_
          refine zz_v (v := (-1)) atsf_1 ?_
          refine lv_if_lt (tgt := 35) hx hb dX7_copy_23 (by decide) (fun _ => ?_) (fun h => absurd (by decide) h)
          refine lv_ldcw (v := (-1000000011)) hx hb hown (hts _ (zz_m 3 rfl)) dX7_copy_35 ?_
          exact zz_iret X hr hlk Z12 () (by simp [sp_copy]) [] [] (by decide +kernel) rfl rfl dX7_copy_38
        · have e15 : f3 = 2 := e15
          subst e15
          refine zz_v (v := 1) (by decide) ?_
          refine lv_if_ne (tgt := 17) hx hb dX7_copy_11 (by decide) (fun _ => ?_) (fun h => absurd h (by decide))
          refine lv_aload_n hx hb dX7_copy_17 rfl (lv_at hl 0 rfl) ?_
          refine zz_get X Z12 0 rfl rfl (fun w h => List.mem_cons_of_mem _ (List.mem_append_right _ h)) 4 rfl (zz_m 2 rfl) rfl dX7_copy_18 ?_
          refine lv_iload_n hx hb dX7_copy_21 rfl (lv_at hl 1 rfl) ?_
          refine zz_ild X Z12 1 0 rfl rfl (zz_in 1 4 rfl) dX7_copy_22 ?_
          refine zz_v (v := (-1)) atsf_1 ?_
          refine lv_if_lt (tgt := 35) hx hb dX7_copy_23 (by decide) (fun _ => ?_) (fun h => absurd (by decide) h)
          refine lv_ldcw (v := (-1000000011)) hx hb hown (hts _ (zz_m 3 rfl)) dX7_copy_35 ?_
          exact zz_iret X hr hlk Z12 () (by simp [sp_copy]) [] [] (by decide +kernel) rfl rfl dX7_copy_38
        · have e15 : f3 = 3 := e15
          subst e15
          refine zz_v (v := 1) (by decide) ?_
          refine lv_if_ne (tgt := 17) hx hb dX7_copy_11 (by decide) (fun _ => ?_) (fun h => absurd h (by decide))
          refine lv_aload_n hx hb dX7_copy_17 rfl (lv_at hl 0 rfl) ?_
          refine zz_get X Z12 0 rfl rfl (fun w h => List.mem_cons_of_mem _ (List.mem_append_right _ h)) 4 rfl (zz_m 2 rfl) rfl dX7_copy_18 ?_
          refine lv_iload_n hx hb dX7_copy_21 rfl (lv_at hl 1 rfl) ?_
          refine zz_ild X Z12 1 0 rfl rfl (zz_in 1 4 rfl) dX7_copy_22 ?_
          refine zz_v (v := (-1)) atsf_1 ?_
          refine lv_if_lt (tgt := 35) hx hb dX7_copy_23 (by decide) (fun _ => ?_) (fun h => absurd (by decide) h)
          refine lv_ldcw (v := (-1000000011)) hx hb hown (hts _ (zz_m 3 rfl)) dX7_copy_35 ?_
          exact zz_iret X hr hlk Z12 () (by simp [sp_copy]) [] [] (by decide +kernel) rfl rfl dX7_copy_38
      · refine zz_v (v := 0) (zz_wiF w14) ?_
        refine lv_if_ne (tgt := 17) hx hb dX7_copy_11 (by decide) (fun h => absurd (by decide) h) (fun _ => ?_)
        refine lv_ldc (v := (-1000000001)) hx hb hown (hts _ (zz_m 1 rfl)) dX7_copy_14 ?_
        exact zz_iret X hr hlk Z12 () (by simp [sp_copy, w14]) [] [] (by decide +kernel) rfl rfl dX7_copy_16
    · have e5 : f1 = 2 := e5
      subst e5
      refine zz_v (v := 1) (by decide) ?_
      refine lv_if_eq (tgt := 14) hx hb dX7_copy_4 (by decide) (fun h => absurd h (by decide)) (fun _ => ?_)
      refine lv_iload_n hx hb dX7_copy_7 rfl (lv_at hl 3 rfl) ?_
      refine zz_ci (WC := []) (TC := []) (WR := [(mo, .inr (7, [.ref ms, .ref mi, .ref ma, .int 0, .ref mts, .ref mtz, .ref mtn, .ref mh, .ref mhn, .ref mhw, .ref mhz, .ref mhr, .ref mcl, .ref mtp, .int 0, .int 0, .int 0, .int 0, .int 0, .int 0, .int 0, .int 0, .int 0, .int 0, .int 0, .ref mna, .ref mpi, .ref mca, .ref mwa, .int 0, .ref mrd])), (mts, .inl (k_mts, 4, .inl tsf))]) (TR := [(k_mts, .int)]) (k := 0) (n := 0) Z4 [] [0, 1] [] [0] rfl rfl (by decide +kernel) (by decide +kernel) (by decide +kernel) rfl rfl (fun Zc => va_runS (As := [.int f3]) (rest := []) X (c7_isSheet l D f3 H1.size) (va_cwS 1 hts gX7_copy_X7_isSheet rfl rfl rfl zh_X7_isSheet ⟨Nat.le_of_ble_eq_true rfl, Nat.le_of_ble_eq_true rfl⟩) (zz_pS Zc) rfl rfl hl.1 rfl (lv_room (Nat.le_of_ble_eq_true rfl)) dX7_copy_8 ⟨Nat.le_of_ble_eq_true rfl, Nat.le_of_ble_eq_true rfl⟩) rfl rfl (fun r18 u16 H13 locs14 hw17 Z15 => ?_)
      clear Z4
      subst r18
      have Z16 : zz_S D A s [(mo, .inr (7, [.ref ms, .ref mi, .ref ma, .int 0, .ref mts, .ref mtz, .ref mtn, .ref mh, .ref mhn, .ref mhw, .ref mhz, .ref mhr, .ref mcl, .ref mtp, .int 0, .int 0, .int 0, .int 0, .int 0, .int 0, .int 0, .int 0, .int 0, .int 0, .int 0, .ref mna, .ref mpi, .ref mca, .ref mwa, .int 0, .ref mrd])), (mts, .inl (k_mts, 4, .inl tsf))] [(k_mts, .int)] H13 locs14 := Z15
      clear Z15
      by_cases w19 : 0 ≤ f3 ∧ f3 ≤ 3
      · obtain ⟨j, hj, e20⟩ := zz_rng 3 w19 (by decide)
        rcases (show j = 0 ∨ j = 1 ∨ j = 2 ∨ j = 3 by omega) with rfl | rfl | rfl | rfl
        · have e20 : f3 = 0 := e20
          subst e20
          refine zz_v (v := 1) (by decide) ?_
          refine lv_if_ne (tgt := 17) hx hb dX7_copy_11 (by decide) (fun _ => ?_) (fun h => absurd h (by decide))
          refine lv_aload_n hx hb dX7_copy_17 rfl (lv_at hl 0 rfl) ?_
          refine zz_get X Z16 0 rfl rfl (fun w h => List.mem_cons_of_mem _ (List.mem_append_right _ h)) 4 rfl (zz_m 2 rfl) rfl dX7_copy_18 ?_
          refine lv_iload_n hx hb dX7_copy_21 rfl (lv_at hl 1 rfl) ?_
          refine zz_ild X Z16 1 0 rfl rfl (zz_in 2 4 rfl) dX7_copy_22 ?_
          refine zz_v (v := (-1)) atsf_2 ?_
          refine lv_if_lt (tgt := 35) hx hb dX7_copy_23 (by decide) (fun _ => ?_) (fun h => absurd (by decide) h)
          refine lv_ldcw (v := (-1000000011)) hx hb hown (hts _ (zz_m 3 rfl)) dX7_copy_35 ?_
          exact zz_iret X hr hlk Z16 () (by simp [sp_copy]) [] [] (by decide +kernel) rfl rfl dX7_copy_38
        · have e20 : f3 = 1 := e20
          subst e20
          refine zz_v (v := 1) (by decide) ?_
          refine lv_if_ne (tgt := 17) hx hb dX7_copy_11 (by decide) (fun _ => ?_) (fun h => absurd h (by decide))
          refine lv_aload_n hx hb dX7_copy_17 rfl (lv_at hl 0 rfl) ?_
          refine zz_get X Z16 0 rfl rfl (fun w h => List.mem_cons_of_mem _ (List.mem_append_right _ h)) 4 rfl (zz_m 2 rfl) rfl dX7_copy_18 ?_
          refine lv_iload_n hx hb dX7_copy_21 rfl (lv_at hl 1 rfl) ?_
          refine zz_ild X Z16 1 0 rfl rfl (zz_in 2 4 rfl) dX7_copy_22 ?_
          refine zz_v (v := (-1)) atsf_2 ?_
          refine lv_if_lt (tgt := 35) hx hb dX7_copy_23 (by decide) (fun _ => ?_) (fun h => absurd (by decide) h)
          refine lv_ldcw (v := (-1000000011)) hx hb hown (hts _ (zz_m 3 rfl)) dX7_copy_35 ?_
          exact zz_iret X hr hlk Z16 () (by simp [sp_copy]) [] [] (by decide +kernel) rfl rfl dX7_copy_38
        · have e20 : f3 = 2 := e20
          subst e20
          refine zz_v (v := 1) (by decide) ?_
          refine lv_if_ne (tgt := 17) hx hb dX7_copy_11 (by decide) (fun _ => ?_) (fun h => absurd h (by decide))
          refine lv_aload_n hx hb dX7_copy_17 rfl (lv_at hl 0 rfl) ?_
          refine zz_get X Z16 0 rfl rfl (fun w h => List.mem_cons_of_mem _ (List.mem_append_right _ h)) 4 rfl (zz_m 2 rfl) rfl dX7_copy_18 ?_
          refine lv_iload_n hx hb dX7_copy_21 rfl (lv_at hl 1 rfl) ?_
          refine zz_ild X Z16 1 0 rfl rfl (zz_in 2 4 rfl) dX7_copy_22 ?_
          refine zz_v (v := (-1)) atsf_2 ?_
          refine lv_if_lt (tgt := 35) hx hb dX7_copy_23 (by decide) (fun _ => ?_) (fun h => absurd (by decide) h)
          refine lv_ldcw (v := (-1000000011)) hx hb hown (hts _ (zz_m 3 rfl)) dX7_copy_35 ?_
          exact zz_iret X hr hlk Z16 () (by simp [sp_copy]) [] [] (by decide +kernel) rfl rfl dX7_copy_38
        · have e20 : f3 = 3 := e20
          subst e20
          refine zz_v (v := 1) (by decide) ?_
          refine lv_if_ne (tgt := 17) hx hb dX7_copy_11 (by decide) (fun _ => ?_) (fun h => absurd h (by decide))
          refine lv_aload_n hx hb dX7_copy_17 rfl (lv_at hl 0 rfl) ?_
          refine zz_get X Z16 0 rfl rfl (fun w h => List.mem_cons_of_mem _ (List.mem_append_right _ h)) 4 rfl (zz_m 2 rfl) rfl dX7_copy_18 ?_
          refine lv_iload_n hx hb dX7_copy_21 rfl (lv_at hl 1 rfl) ?_
          refine zz_ild X Z16 1 0 rfl rfl (zz_in 2 4 rfl) dX7_copy_22 ?_
          refine zz_v (v := (-1)) atsf_2 ?_
          refine lv_if_lt (tgt := 35) hx hb dX7_copy_23 (by decide) (fun _ => ?_) (fun h => absurd (by decide) h)
          refine lv_ldcw (v := (-1000000011)) hx hb hown (hts _ (zz_m 3 rfl)) dX7_copy_35 ?_
          exact zz_iret X hr hlk Z16 () (by simp [sp_copy]) [] [] (by decide +kernel) rfl rfl dX7_copy_38
      · refine zz_v (v := 0) (zz_wiF w19) ?_
        refine lv_if_ne (tgt := 17) hx hb dX7_copy_11 (by decide) (fun h => absurd (by decide) h) (fun _ => ?_)
        refine lv_ldc (v := (-1000000001)) hx hb hown (hts _ (zz_m 1 rfl)) dX7_copy_14 ?_
        exact zz_iret X hr hlk Z16 () (by simp [sp_copy, w19]) [] [] (by decide +kernel) rfl rfl dX7_copy_16
    · have e5 : f1 = 3 := e5
      subst e5
      refine zz_v (v := 1) (by decide) ?_
      refine lv_if_eq (tgt := 14) hx hb dX7_copy_4 (by decide) (fun h => absurd h (by decide)) (fun _ => ?_)
      refine lv_iload_n hx hb dX7_copy_7 rfl (lv_at hl 3 rfl) ?_
      refine zz_ci (WC := []) (TC := []) (WR := [(mo, .inr (7, [.ref ms, .ref mi, .ref ma, .int 0, .ref mts, .ref mtz, .ref mtn, .ref mh, .ref mhn, .ref mhw, .ref mhz, .ref mhr, .ref mcl, .ref mtp, .int 0, .int 0, .int 0, .int 0, .int 0, .int 0, .int 0, .int 0, .int 0, .int 0, .int 0, .ref mna, .ref mpi, .ref mca, .ref mwa, .int 0, .ref mrd])), (mts, .inl (k_mts, 4, .inl tsf))]) (TR := [(k_mts, .int)]) (k := 0) (n := 0) Z4 [] [0, 1] [] [0] rfl rfl (by decide +kernel) (by decide +kernel) (by decide +kernel) rfl rfl (fun Zc => va_runS (As := [.int f3]) (rest := []) X (c7_isSheet l D f3 H1.size) (va_cwS 1 hts gX7_copy_X7_isSheet rfl rfl rfl zh_X7_isSheet ⟨Nat.le_of_ble_eq_true rfl, Nat.le_of_ble_eq_true rfl⟩) (zz_pS Zc) rfl rfl hl.1 rfl (lv_room (Nat.le_of_ble_eq_true rfl)) dX7_copy_8 ⟨Nat.le_of_ble_eq_true rfl, Nat.le_of_ble_eq_true rfl⟩) rfl rfl (fun r23 u21 H17 locs18 hw22 Z19 => ?_)
      clear Z4
      subst r23
      have Z20 : zz_S D A s [(mo, .inr (7, [.ref ms, .ref mi, .ref ma, .int 0, .ref mts, .ref mtz, .ref mtn, .ref mh, .ref mhn, .ref mhw, .ref mhz, .ref mhr, .ref mcl, .ref mtp, .int 0, .int 0, .int 0, .int 0, .int 0, .int 0, .int 0, .int 0, .int 0, .int 0, .int 0, .ref mna, .ref mpi, .ref mca, .ref mwa, .int 0, .ref mrd])), (mts, .inl (k_mts, 4, .inl tsf))] [(k_mts, .int)] H17 locs18 := Z19
      clear Z19
      by_cases w24 : 0 ≤ f3 ∧ f3 ≤ 3
      · obtain ⟨j, hj, e25⟩ := zz_rng 3 w24 (by decide)
        rcases (show j = 0 ∨ j = 1 ∨ j = 2 ∨ j = 3 by omega) with rfl | rfl | rfl | rfl
        · have e25 : f3 = 0 := e25
          subst e25
          refine zz_v (v := 1) (by decide) ?_
          refine lv_if_ne (tgt := 17) hx hb dX7_copy_11 (by decide) (fun _ => ?_) (fun h => absurd h (by decide))
          refine lv_aload_n hx hb dX7_copy_17 rfl (lv_at hl 0 rfl) ?_
          refine zz_get X Z20 0 rfl rfl (fun w h => List.mem_cons_of_mem _ (List.mem_append_right _ h)) 4 rfl (zz_m 2 rfl) rfl dX7_copy_18 ?_
          refine lv_iload_n hx hb dX7_copy_21 rfl (lv_at hl 1 rfl) ?_
          refine zz_ild X Z20 1 0 rfl rfl (zz_in 3 4 rfl) dX7_copy_22 ?_
          refine zz_v (v := (-1)) atsf_3 ?_
          refine lv_if_lt (tgt := 35) hx hb dX7_copy_23 (by decide) (fun _ => ?_) (fun h => absurd (by decide) h)
          refine lv_ldcw (v := (-1000000011)) hx hb hown (hts _ (zz_m 3 rfl)) dX7_copy_35 ?_
          exact zz_iret X hr hlk Z20 () (by simp [sp_copy]) [] [] (by decide +kernel) rfl rfl dX7_copy_38
        · have e25 : f3 = 1 := e25
          subst e25
          refine zz_v (v := 1) (by decide) ?_
          refine lv_if_ne (tgt := 17) hx hb dX7_copy_11 (by decide) (fun _ => ?_) (fun h => absurd h (by decide))
          refine lv_aload_n hx hb dX7_copy_17 rfl (lv_at hl 0 rfl) ?_
          refine zz_get X Z20 0 rfl rfl (fun w h => List.mem_cons_of_mem _ (List.mem_append_right _ h)) 4 rfl (zz_m 2 rfl) rfl dX7_copy_18 ?_
          refine lv_iload_n hx hb dX7_copy_21 rfl (lv_at hl 1 rfl) ?_
          refine zz_ild X Z20 1 0 rfl rfl (zz_in 3 4 rfl) dX7_copy_22 ?_
          refine zz_v (v := (-1)) atsf_3 ?_
          refine lv_if_lt (tgt := 35) hx hb dX7_copy_23 (by decide) (fun _ => ?_) (fun h => absurd (by decide) h)
          refine lv_ldcw (v := (-1000000011)) hx hb hown (hts _ (zz_m 3 rfl)) dX7_copy_35 ?_
          exact zz_iret X hr hlk Z20 () (by simp [sp_copy]) [] [] (by decide +kernel) rfl rfl dX7_copy_38
        · have e25 : f3 = 2 := e25
          subst e25
          refine zz_v (v := 1) (by decide) ?_
          refine lv_if_ne (tgt := 17) hx hb dX7_copy_11 (by decide) (fun _ => ?_) (fun h => absurd h (by decide))
          refine lv_aload_n hx hb dX7_copy_17 rfl (lv_at hl 0 rfl) ?_
          refine zz_get X Z20 0 rfl rfl (fun w h => List.mem_cons_of_mem _ (List.mem_append_right _ h)) 4 rfl (zz_m 2 rfl) rfl dX7_copy_18 ?_
          refine lv_iload_n hx hb dX7_copy_21 rfl (lv_at hl 1 rfl) ?_
          refine zz_ild X Z20 1 0 rfl rfl (zz_in 3 4 rfl) dX7_copy_22 ?_
          refine zz_v (v := (-1)) atsf_3 ?_
          refine lv_if_lt (tgt := 35) hx hb dX7_copy_23 (by decide) (fun _ => ?_) (fun h => absurd (by decide) h)
          refine lv_ldcw (v := (-1000000011)) hx hb hown (hts _ (zz_m 3 rfl)) dX7_copy_35 ?_
          exact zz_iret X hr hlk Z20 () (by simp [sp_copy]) [] [] (by decide +kernel) rfl rfl dX7_copy_38
        · have e25 : f3 = 3 := e25
          subst e25
          refine zz_v (v := 1) (by decide) ?_
          refine lv_if_ne (tgt := 17) hx hb dX7_copy_11 (by decide) (fun _ => ?_) (fun h => absurd h (by decide))
          refine lv_aload_n hx hb dX7_copy_17 rfl (lv_at hl 0 rfl) ?_
          refine zz_get X Z20 0 rfl rfl (fun w h => List.mem_cons_of_mem _ (List.mem_append_right _ h)) 4 rfl (zz_m 2 rfl) rfl dX7_copy_18 ?_
          refine lv_iload_n hx hb dX7_copy_21 rfl (lv_at hl 1 rfl) ?_
          refine zz_ild X Z20 1 0 rfl rfl (zz_in 3 4 rfl) dX7_copy_22 ?_
          refine zz_v (v := (-1)) atsf_3 ?_
          refine lv_if_lt (tgt := 35) hx hb dX7_copy_23 (by decide) (fun _ => ?_) (fun h => absurd (by decide) h)
          refine lv_ldcw (v := (-1000000011)) hx hb hown (hts _ (zz_m 3 rfl)) dX7_copy_35 ?_
          exact zz_iret X hr hlk Z20 () (by simp [sp_copy]) [] [] (by decide +kernel) rfl rfl dX7_copy_38
      · refine zz_v (v := 0) (zz_wiF w24) ?_
        refine lv_if_ne (tgt := 17) hx hb dX7_copy_11 (by decide) (fun h => absurd (by decide) h) (fun _ => ?_)
        refine lv_ldc (v := (-1000000001)) hx hb hown (hts _ (zz_m 1 rfl)) dX7_copy_14 ?_
        exact zz_iret X hr hlk Z20 () (by simp [sp_copy, w24]) [] [] (by decide +kernel) rfl rfl dX7_copy_16
  · refine zz_v (v := 0) (zz_wiF w4) ?_
    refine lv_if_eq (tgt := 14) hx hb dX7_copy_4 (by decide) (fun _ => ?_) (fun h => absurd (by decide) h)
    refine lv_ldc (v := (-1000000001)) hx hb hown (hts _ (zz_m 1 rfl)) dX7_copy_14 ?_
    exact zz_iret X hr hlk Z4 () (by simp [sp_copy, w4]) [] [] (by decide +kernel) rfl rfl dX7_copy_16

set_option maxHeartbeats 4000000 in
set_option maxRecDepth 100000 in
theorem c7_ask (l : Launch) (D : va_G) (mo : Nat) (ms : Nat) (mi : Nat) (ma : Nat) (mts : Nat) (mtz : Nat) (mtn : Nat) (mh : Nat) (mhn : Nat) (mhw : Nat) (mhz : Nat) (mhr : Nat) (mcl : Nat) (mtp : Nat) (mna : Nat) (mpi : Nat) (mca : Nat) (mwa : Nat) (mrd : Nat) (k_mh : ClassId) (hf : (Nat → Int32)) (slot : Int32) (kind : Int32) (ahf_0 : hf 0 = 0) (ahf_1 : hf 1 = 0) (ahf_2 : hf 2 = 0) (ahf_3 : hf 3 = 0) (ahf_4 : hf 4 = 0) : zz_MI l yX7_ask wsX7_ask 2 45 0 0 D [.ref mo, .int slot, .int kind] [(mo, .inr (7, [.ref ms, .ref mi, .ref ma, .int 0, .ref mts, .ref mtz, .ref mtn, .ref mh, .ref mhn, .ref mhw, .ref mhz, .ref mhr, .ref mcl, .ref mtp, .int 0, .int 0, .int 0, .int 0, .int 0, .int 0, .int 0, .int 0, .int 0, .int 0, .int 0, .ref mna, .ref mpi, .ref mca, .ref mwa, .int 0, .ref mrd])), (mh, .inl (k_mh, 5, .inl hf))] [(k_mh, .int)] (fun (r : Int32) (u : Unit) => r = sp_ask slot kind) (fun (u : Unit) => []) (fun (u : Unit) => []) := by
  intro sz
  refine Met.ofW (cc := cX7_ask) (maxL := 3) (ret := (some .int)) (by decide) rfl ?_
  intro p e s m args below meth c s₁ B hml hv
  obtain ⟨rfl, hC⟩ := hv
  have hx := B.exec
  have hb := B.bytes
  have hr := B.returns
  have hts := atoms_spec (ws := wsX7_ask) B.pre
  have hown : s.vm.findClass RX7 = some m.cls := findClass_of_methodNamed B.named
  have hlk := B.notSynchronized
  have X : CallFix p m c cX7_ask 3 s _ wsX7_ask RX7 := ⟨hx, hb, hml, hown, hts⟩
  have Z := zz_enter hC
  generalize va_A [(mo, .inr (7, [.ref ms, .ref mi, .ref ma, .int 0, .ref mts, .ref mtz, .ref mtn, .ref mh, .ref mhn, .ref mhw, .ref mhz, .ref mhr, .ref mcl, .ref mtp, .int 0, .int 0, .int 0, .int 0, .int 0, .int 0, .int 0, .int 0, .int 0, .int 0, .int 0, .ref mna, .ref mpi, .ref mca, .ref mwa, .int 0, .ref mrd])), (mh, .inl (k_mh, 5, .inl hf))] sz = A at Z ⊢
  have hl := lv_entry ([.ref mo, .int slot, .int kind]) (n := 3) (Nat.le_of_ble_eq_true rfl)
  rw [lg_entry_eq]
  generalize (lg_sl ([.ref mo, .int slot, .int kind]) ++ List.replicate (3 - (lg_sl ([.ref mo, .int slot, .int kind])).length) Slot.unset).toArray = ls at hl ⊢
  have hl : lv_has ls 3 [(0, .ref mo), (1, .int slot), (2, .int kind)] := hl
  refine lv_iload_n hx hb dX7_ask_0 rfl (lv_at hl 1 rfl) ?_
  refine zz_ci (WC := []) (TC := []) (WR := [(mo, .inr (7, [.ref ms, .ref mi, .ref ma, .int 0, .ref mts, .ref mtz, .ref mtn, .ref mh, .ref mhn, .ref mhw, .ref mhz, .ref mhr, .ref mcl, .ref mtp, .int 0, .int 0, .int 0, .int 0, .int 0, .int 0, .int 0, .int 0, .int 0, .int 0, .int 0, .ref mna, .ref mpi, .ref mca, .ref mwa, .int 0, .ref mrd])), (mh, .inl (k_mh, 5, .inl hf))]) (TR := [(k_mh, .int)]) (k := 0) (n := 0) Z [] [0, 1] [] [0] rfl rfl (by decide +kernel) (by decide +kernel) (by decide +kernel) rfl rfl (fun Zc => va_runS (As := [.int slot]) (rest := []) X (c7_isSlot l D slot s.heap.size) (va_cwS 1 hts gX7_ask_X7_isSlot rfl rfl rfl zh_X7_isSlot ⟨Nat.le_of_ble_eq_true rfl, Nat.le_of_ble_eq_true rfl⟩) (zz_pS Zc) rfl rfl hl.1 rfl (lv_room (Nat.le_of_ble_eq_true rfl)) dX7_ask_1 ⟨Nat.le_of_ble_eq_true rfl, Nat.le_of_ble_eq_true rfl⟩) rfl rfl (fun r3 u1 H1 locs2 hw2 Z3 => ?_)
  clear Z
  subst r3
  have Z4 : zz_S D A s [(mo, .inr (7, [.ref ms, .ref mi, .ref ma, .int 0, .ref mts, .ref mtz, .ref mtn, .ref mh, .ref mhn, .ref mhw, .ref mhz, .ref mhr, .ref mcl, .ref mtp, .int 0, .int 0, .int 0, .int 0, .int 0, .int 0, .int 0, .int 0, .int 0, .int 0, .int 0, .ref mna, .ref mpi, .ref mca, .ref mwa, .int 0, .ref mrd])), (mh, .inl (k_mh, 5, .inl hf))] [(k_mh, .int)] H1 locs2 := Z3
  clear Z3
  by_cases w4 : 0 ≤ slot ∧ slot ≤ 4
  · obtain ⟨j, hj, e5⟩ := zz_rng 4 w4 (by decide)
    rcases (show j = 0 ∨ j = 1 ∨ j = 2 ∨ j = 3 ∨ j = 4 by omega) with rfl | rfl | rfl | rfl | rfl
    · have e5 : slot = 0 := e5
      subst e5
      refine zz_v (v := 1) (by decide) ?_
      refine lv_if_eq (tgt := 19) hx hb dX7_ask_4 (by decide) (fun h => absurd h (by decide)) (fun _ => ?_)
      refine lv_iload_n hx hb dX7_ask_7 rfl (lv_at hl 2 rfl) ?_
      refine lv_i2l (v := Int32.toInt64 kind) hx hb dX7_ask_8 rfl ?_
      refine lv_lconst (v := 0) hx hb dX7_ask_9 (by decide) ?_
      refine zz_vl (v := Int32.toInt64 0) (by decide) ?_
      refine lv_ldc2 (v := 5) hx hb hown (hts _ (zz_m 1 rfl)) dX7_ask_10 ?_
      refine zz_vl (v := Int32.toInt64 5) (by decide) ?_
      refine zz_ci (WC := []) (TC := []) (WR := [(mo, .inr (7, [.ref ms, .ref mi, .ref ma, .int 0, .ref mts, .ref mtz, .ref mtn, .ref mh, .ref mhn, .ref mhw, .ref mhz, .ref mhr, .ref mcl, .ref mtp, .int 0, .int 0, .int 0, .int 0, .int 0, .int 0, .int 0, .int 0, .int 0, .int 0, .int 0, .ref mna, .ref mpi, .ref mca, .ref mwa, .int 0, .ref mrd])), (mh, .inl (k_mh, 5, .inl hf))]) (TR := [(k_mh, .int)]) (k := 0) (n := 0) Z4 [] [0, 1] [] [0] rfl rfl (by decide +kernel) (by decide +kernel) (by decide +kernel) rfl rfl (fun Zc => va_runS (As := [.long (Int32.toInt64 kind), .long (Int32.toInt64 0), .long (Int32.toInt64 5)]) (rest := []) X (c_isIn l D kind 0 5 H1.size) (va_cwS 3 hts gX7_ask_X7_isIn rfl rfl rfl zh_X7_isIn ⟨Nat.le_of_ble_eq_true rfl, Nat.le_of_ble_eq_true rfl⟩) (zz_pS Zc) rfl rfl hl.1 rfl (lv_room (Nat.le_of_ble_eq_true rfl)) dX7_ask_13 ⟨Nat.le_of_ble_eq_true rfl, Nat.le_of_ble_eq_true rfl⟩) rfl rfl (fun r8 u6 H5 locs6 hw7 Z7 => ?_)
      clear Z4
      subst r8
      have Z8 : zz_S D A s [(mo, .inr (7, [.ref ms, .ref mi, .ref ma, .int 0, .ref mts, .ref mtz, .ref mtn, .ref mh, .ref mhn, .ref mhw, .ref mhz, .ref mhr, .ref mcl, .ref mtp, .int 0, .int 0, .int 0, .int 0, .int 0, .int 0, .int 0, .int 0, .int 0, .int 0, .int 0, .ref mna, .ref mpi, .ref mca, .ref mwa, .int 0, .ref mrd])), (mh, .inl (k_mh, 5, .inl hf))] [(k_mh, .int)] H5 locs6 := Z7
      clear Z7
      by_cases w9 : 0 ≤ kind ∧ kind ≤ 5
      · refine zz_v (v := 1) (zz_wiT w9) ?_
        refine lv_if_ne (tgt := 22) hx hb dX7_ask_16 (by decide) (fun _ => ?_) (fun h => absurd h (by decide))
        refine lv_aload_n hx hb dX7_ask_22 rfl (lv_at hl 0 rfl) ?_
        refine zz_get X Z8 0 rfl rfl (fun w h => List.mem_cons_of_mem _ (List.mem_append_right _ h)) 7 rfl (zz_m 3 rfl) rfl dX7_ask_23 ?_
        refine lv_iload_n hx hb dX7_ask_26 rfl (lv_at hl 1 rfl) ?_
        refine zz_ild X Z8 1 0 rfl rfl (zz_in 0 5 rfl) dX7_ask_27 ?_
        refine zz_v (v := 0) ahf_0 ?_
        refine lv_if_ne (tgt := 35) hx hb dX7_ask_28 (by decide) (fun h => absurd (by decide) h) (fun _ => ?_)
        refine lv_ldcw (v := (-1000000011)) hx hb hown (hts _ (zz_m 4 rfl)) dX7_ask_31 ?_
        exact zz_iret X hr hlk Z8 () (by simp [sp_ask, w9]) [] [] (by decide +kernel) rfl rfl dX7_ask_34
      · refine zz_v (v := 0) (zz_wiF w9) ?_
        refine lv_if_ne (tgt := 22) hx hb dX7_ask_16 (by decide) (fun h => absurd (by decide) h) (fun _ => ?_)
        refine lv_ldc (v := (-1000000001)) hx hb hown (hts _ (zz_m 2 rfl)) dX7_ask_19 ?_
        exact zz_iret X hr hlk Z8 () (by simp [sp_ask, w9]) [] [] (by decide +kernel) rfl rfl dX7_ask_21
    · have e5 : slot = 1 := e5
      subst e5
      refine zz_v (v := 1) (by decide) ?_
      refine lv_if_eq (tgt := 19) hx hb dX7_ask_4 (by decide) (fun h => absurd h (by decide)) (fun _ => ?_)
      refine lv_iload_n hx hb dX7_ask_7 rfl (lv_at hl 2 rfl) ?_
      refine lv_i2l (v := Int32.toInt64 kind) hx hb dX7_ask_8 rfl ?_
      refine lv_lconst (v := 0) hx hb dX7_ask_9 (by decide) ?_
      refine zz_vl (v := Int32.toInt64 0) (by decide) ?_
      refine lv_ldc2 (v := 5) hx hb hown (hts _ (zz_m 1 rfl)) dX7_ask_10 ?_
      refine zz_vl (v := Int32.toInt64 5) (by decide) ?_
      refine zz_ci (WC := []) (TC := []) (WR := [(mo, .inr (7, [.ref ms, .ref mi, .ref ma, .int 0, .ref mts, .ref mtz, .ref mtn, .ref mh, .ref mhn, .ref mhw, .ref mhz, .ref mhr, .ref mcl, .ref mtp, .int 0, .int 0, .int 0, .int 0, .int 0, .int 0, .int 0, .int 0, .int 0, .int 0, .int 0, .ref mna, .ref mpi, .ref mca, .ref mwa, .int 0, .ref mrd])), (mh, .inl (k_mh, 5, .inl hf))]) (TR := [(k_mh, .int)]) (k := 0) (n := 0) Z4 [] [0, 1] [] [0] rfl rfl (by decide +kernel) (by decide +kernel) (by decide +kernel) rfl rfl (fun Zc => va_runS (As := [.long (Int32.toInt64 kind), .long (Int32.toInt64 0), .long (Int32.toInt64 5)]) (rest := []) X (c_isIn l D kind 0 5 H1.size) (va_cwS 3 hts gX7_ask_X7_isIn rfl rfl rfl zh_X7_isIn ⟨Nat.le_of_ble_eq_true rfl, Nat.le_of_ble_eq_true rfl⟩) (zz_pS Zc) rfl rfl hl.1 rfl (lv_room (Nat.le_of_ble_eq_true rfl)) dX7_ask_13 ⟨Nat.le_of_ble_eq_true rfl, Nat.le_of_ble_eq_true rfl⟩) rfl rfl (fun r12 u10 H9 locs10 hw11 Z11 => ?_)
      clear Z4
      subst r12
      have Z12 : zz_S D A s [(mo, .inr (7, [.ref ms, .ref mi, .ref ma, .int 0, .ref mts, .ref mtz, .ref mtn, .ref mh, .ref mhn, .ref mhw, .ref mhz, .ref mhr, .ref mcl, .ref mtp, .int 0, .int 0, .int 0, .int 0, .int 0, .int 0, .int 0, .int 0, .int 0, .int 0, .int 0, .ref mna, .ref mpi, .ref mca, .ref mwa, .int 0, .ref mrd])), (mh, .inl (k_mh, 5, .inl hf))] [(k_mh, .int)] H9 locs10 := Z11
      clear Z11
      by_cases w13 : 0 ≤ kind ∧ kind ≤ 5
      · refine zz_v (v := 1) (zz_wiT w13) ?_
        refine lv_if_ne (tgt := 22) hx hb dX7_ask_16 (by decide) (fun _ => ?_) (fun h => absurd h (by decide))
        refine lv_aload_n hx hb dX7_ask_22 rfl (lv_at hl 0 rfl) ?_
        refine zz_get X Z12 0 rfl rfl (fun w h => List.mem_cons_of_mem _ (List.mem_append_right _ h)) 7 rfl (zz_m 3 rfl) rfl dX7_ask_23 ?_
        refine lv_iload_n hx hb dX7_ask_26 rfl (lv_at hl 1 rfl) ?_
        refine zz_ild X Z12 1 0 rfl rfl (zz_in 1 5 rfl) dX7_ask_27 ?_
        refine zz_v (v := 0) ahf_1 ?_
        refine lv_if_ne (tgt := 35) hx hb dX7_ask_28 (by decide) (fun h => absurd (by decide) h) (fun _ => ?_)
        refine lv_ldcw (v := (-1000000011)) hx hb hown (hts _ (zz_m 4 rfl)) dX7_ask_31 ?_
        exact zz_iret X hr hlk Z12 () (by simp [sp_ask, w13]) [] [] (by decide +kernel) rfl rfl dX7_ask_34
      · refine zz_v (v := 0) (zz_wiF w13) ?_
        refine lv_if_ne (tgt := 22) hx hb dX7_ask_16 (by decide) (fun h => absurd (by decide) h) (fun _ => ?_)
        refine lv_ldc (v := (-1000000001)) hx hb hown (hts _ (zz_m 2 rfl)) dX7_ask_19 ?_
        exact zz_iret X hr hlk Z12 () (by simp [sp_ask, w13]) [] [] (by decide +kernel) rfl rfl dX7_ask_21
    · have e5 : slot = 2 := e5
      subst e5
      refine zz_v (v := 1) (by decide) ?_
      refine lv_if_eq (tgt := 19) hx hb dX7_ask_4 (by decide) (fun h => absurd h (by decide)) (fun _ => ?_)
      refine lv_iload_n hx hb dX7_ask_7 rfl (lv_at hl 2 rfl) ?_
      refine lv_i2l (v := Int32.toInt64 kind) hx hb dX7_ask_8 rfl ?_
      refine lv_lconst (v := 0) hx hb dX7_ask_9 (by decide) ?_
      refine zz_vl (v := Int32.toInt64 0) (by decide) ?_
      refine lv_ldc2 (v := 5) hx hb hown (hts _ (zz_m 1 rfl)) dX7_ask_10 ?_
      refine zz_vl (v := Int32.toInt64 5) (by decide) ?_
      refine zz_ci (WC := []) (TC := []) (WR := [(mo, .inr (7, [.ref ms, .ref mi, .ref ma, .int 0, .ref mts, .ref mtz, .ref mtn, .ref mh, .ref mhn, .ref mhw, .ref mhz, .ref mhr, .ref mcl, .ref mtp, .int 0, .int 0, .int 0, .int 0, .int 0, .int 0, .int 0, .int 0, .int 0, .int 0, .int 0, .ref mna, .ref mpi, .ref mca, .ref mwa, .int 0, .ref mrd])), (mh, .inl (k_mh, 5, .inl hf))]) (TR := [(k_mh, .int)]) (k := 0) (n := 0) Z4 [] [0, 1] [] [0] rfl rfl (by decide +kernel) (by decide +kernel) (by decide +kernel) rfl rfl (fun Zc => va_runS (As := [.long (Int32.toInt64 kind), .long (Int32.toInt64 0), .long (Int32.toInt64 5)]) (rest := []) X (c_isIn l D kind 0 5 H1.size) (va_cwS 3 hts gX7_ask_X7_isIn rfl rfl rfl zh_X7_isIn ⟨Nat.le_of_ble_eq_true rfl, Nat.le_of_ble_eq_true rfl⟩) (zz_pS Zc) rfl rfl hl.1 rfl (lv_room (Nat.le_of_ble_eq_true rfl)) dX7_ask_13 ⟨Nat.le_of_ble_eq_true rfl, Nat.le_of_ble_eq_true rfl⟩) rfl rfl (fun r16 u14 H13 locs14 hw15 Z15 => ?_)
      clear Z4
      subst r16
      have Z16 : zz_S D A s [(mo, .inr (7, [.ref ms, .ref mi, .ref ma, .int 0, .ref mts, .ref mtz, .ref mtn, .ref mh, .ref mhn, .ref mhw, .ref mhz, .ref mhr, .ref mcl, .ref mtp, .int 0, .int 0, .int 0, .int 0, .int 0, .int 0, .int 0, .int 0, .int 0, .int 0, .int 0, .ref mna, .ref mpi, .ref mca, .ref mwa, .int 0, .ref mrd])), (mh, .inl (k_mh, 5, .inl hf))] [(k_mh, .int)] H13 locs14 := Z15
      clear Z15
      by_cases w17 : 0 ≤ kind ∧ kind ≤ 5
      · refine zz_v (v := 1) (zz_wiT w17) ?_
        refine lv_if_ne (tgt := 22) hx hb dX7_ask_16 (by decide) (fun _ => ?_) (fun h => absurd h (by decide))
        refine lv_aload_n hx hb dX7_ask_22 rfl (lv_at hl 0 rfl) ?_
        refine zz_get X Z16 0 rfl rfl (fun w h => List.mem_cons_of_mem _ (List.mem_append_right _ h)) 7 rfl (zz_m 3 rfl) rfl dX7_ask_23 ?_
        refine lv_iload_n hx hb dX7_ask_26 rfl (lv_at hl 1 rfl) ?_
        refine zz_ild X Z16 1 0 rfl rfl (zz_in 2 5 rfl) dX7_ask_27 ?_
        refine zz_v (v := 0) ahf_2 ?_
        refine lv_if_ne (tgt := 35) hx hb dX7_ask_28 (by decide) (fun h => absurd (by decide) h) (fun _ => ?_)
        refine lv_ldcw (v := (-1000000011)) hx hb hown (hts _ (zz_m 4 rfl)) dX7_ask_31 ?_
        exact zz_iret X hr hlk Z16 () (by simp [sp_ask, w17]) [] [] (by decide +kernel) rfl rfl dX7_ask_34
      · refine zz_v (v := 0) (zz_wiF w17) ?_
        refine lv_if_ne (tgt := 22) hx hb dX7_ask_16 (by decide) (fun h => absurd (by decide) h) (fun _ => ?_)
        refine lv_ldc (v := (-1000000001)) hx hb hown (hts _ (zz_m 2 rfl)) dX7_ask_19 ?_
        exact zz_iret X hr hlk Z16 () (by simp [sp_ask, w17]) [] [] (by decide +kernel) rfl rfl dX7_ask_21
    · have e5 : slot = 3 := e5
      subst e5
      refine zz_v (v := 1) (by decide) ?_
      refine lv_if_eq (tgt := 19) hx hb dX7_ask_4 (by decide) (fun h => absurd h (by decide)) (fun _ => ?_)
      refine lv_iload_n hx hb dX7_ask_7 rfl (lv_at hl 2 rfl) ?_
      refine lv_i2l (v := Int32.toInt64 kind) hx hb dX7_ask_8 rfl ?_
      refine lv_lconst (v := 0) hx hb dX7_ask_9 (by decide) ?_
      refine zz_vl (v := Int32.toInt64 0) (by decide) ?_
      refine lv_ldc2 (v := 5) hx hb hown (hts _ (zz_m 1 rfl)) dX7_ask_10 ?_
      refine zz_vl (v := Int32.toInt64 5) (by decide) ?_
      refine zz_ci (WC := []) (TC := []) (WR := [(mo, .inr (7, [.ref ms, .ref mi, .ref ma, .int 0, .ref mts, .ref mtz, .ref mtn, .ref mh, .ref mhn, .ref mhw, .ref mhz, .ref mhr, .ref mcl, .ref mtp, .int 0, .int 0, .int 0, .int 0, .int 0, .int 0, .int 0, .int 0, .int 0, .int 0, .int 0, .ref mna, .ref mpi, .ref mca, .ref mwa, .int 0, .ref mrd])), (mh, .inl (k_mh, 5, .inl hf))]) (TR := [(k_mh, .int)]) (k := 0) (n := 0) Z4 [] [0, 1] [] [0] rfl rfl (by decide +kernel) (by decide +kernel) (by decide +kernel) rfl rfl (fun Zc => va_runS (As := [.long (Int32.toInt64 kind), .long (Int32.toInt64 0), .long (Int32.toInt64 5)]) (rest := []) X (c_isIn l D kind 0 5 H1.size) (va_cwS 3 hts gX7_ask_X7_isIn rfl rfl rfl zh_X7_isIn ⟨Nat.le_of_ble_eq_true rfl, Nat.le_of_ble_eq_true rfl⟩) (zz_pS Zc) rfl rfl hl.1 rfl (lv_room (Nat.le_of_ble_eq_true rfl)) dX7_ask_13 ⟨Nat.le_of_ble_eq_true rfl, Nat.le_of_ble_eq_true rfl⟩) rfl rfl (fun r20 u18 H17 locs18 hw19 Z19 => ?_)
      clear Z4
      subst r20
      have Z20 : zz_S D A s [(mo, .inr (7, [.ref ms, .ref mi, .ref ma, .int 0, .ref mts, .ref mtz, .ref mtn, .ref mh, .ref mhn, .ref mhw, .ref mhz, .ref mhr, .ref mcl, .ref mtp, .int 0, .int 0, .int 0, .int 0, .int 0, .int 0, .int 0, .int 0, .int 0, .int 0, .int 0, .ref mna, .ref mpi, .ref mca, .ref mwa, .int 0, .ref mrd])), (mh, .inl (k_mh, 5, .inl hf))] [(k_mh, .int)] H17 locs18 := Z19
      clear Z19
      by_cases w21 : 0 ≤ kind ∧ kind ≤ 5
      · refine zz_v (v := 1) (zz_wiT w21) ?_
        refine lv_if_ne (tgt := 22) hx hb dX7_ask_16 (by decide) (fun _ => ?_) (fun h => absurd h (by decide))
        refine lv_aload_n hx hb dX7_ask_22 rfl (lv_at hl 0 rfl) ?_
        refine zz_get X Z20 0 rfl rfl (fun w h => List.mem_cons_of_mem _ (List.mem_append_right _ h)) 7 rfl (zz_m 3 rfl) rfl dX7_ask_23 ?_
        refine lv_iload_n hx hb dX7_ask_26 rfl (lv_at hl 1 rfl) ?_
        refine zz_ild X Z20 1 0 rfl rfl (zz_in 3 5 rfl) dX7_ask_27 ?_
        refine zz_v (v := 0) ahf_3 ?_
        refine lv_if_ne (tgt := 35) hx hb dX7_ask_28 (by decide) (fun h => absurd (by decide) h) (fun _ => ?_)
        refine lv_ldcw (v := (-1000000011)) hx hb hown (hts _ (zz_m 4 rfl)) dX7_ask_31 ?_
        exact zz_iret X hr hlk Z20 () (by simp [sp_ask, w21]) [] [] (by decide +kernel) rfl rfl dX7_ask_34
      · refine zz_v (v := 0) (zz_wiF w21) ?_
        refine lv_if_ne (tgt := 22) hx hb dX7_ask_16 (by decide) (fun h => absurd (by decide) h) (fun _ => ?_)
        refine lv_ldc (v := (-1000000001)) hx hb hown (hts _ (zz_m 2 rfl)) dX7_ask_19 ?_
        exact zz_iret X hr hlk Z20 () (by simp [sp_ask, w21]) [] [] (by decide +kernel) rfl rfl dX7_ask_21
    · have e5 : slot = 4 := e5
      subst e5
      refine zz_v (v := 1) (by decide) ?_
      refine lv_if_eq (tgt := 19) hx hb dX7_ask_4 (by decide) (fun h => absurd h (by decide)) (fun _ => ?_)
      refine lv_iload_n hx hb dX7_ask_7 rfl (lv_at hl 2 rfl) ?_
      refine lv_i2l (v := Int32.toInt64 kind) hx hb dX7_ask_8 rfl ?_
      refine lv_lconst (v := 0) hx hb dX7_ask_9 (by decide) ?_
      refine zz_vl (v := Int32.toInt64 0) (by decide) ?_
      refine lv_ldc2 (v := 5) hx hb hown (hts _ (zz_m 1 rfl)) dX7_ask_10 ?_
      refine zz_vl (v := Int32.toInt64 5) (by decide) ?_
      refine zz_ci (WC := []) (TC := []) (WR := [(mo, .inr (7, [.ref ms, .ref mi, .ref ma, .int 0, .ref mts, .ref mtz, .ref mtn, .ref mh, .ref mhn, .ref mhw, .ref mhz, .ref mhr, .ref mcl, .ref mtp, .int 0, .int 0, .int 0, .int 0, .int 0, .int 0, .int 0, .int 0, .int 0, .int 0, .int 0, .ref mna, .ref mpi, .ref mca, .ref mwa, .int 0, .ref mrd])), (mh, .inl (k_mh, 5, .inl hf))]) (TR := [(k_mh, .int)]) (k := 0) (n := 0) Z4 [] [0, 1] [] [0] rfl rfl (by decide +kernel) (by decide +kernel) (by decide +kernel) rfl rfl (fun Zc => va_runS (As := [.long (Int32.toInt64 kind), .long (Int32.toInt64 0), .long (Int32.toInt64 5)]) (rest := []) X (c_isIn l D kind 0 5 H1.size) (va_cwS 3 hts gX7_ask_X7_isIn rfl rfl rfl zh_X7_isIn ⟨Nat.le_of_ble_eq_true rfl, Nat.le_of_ble_eq_true rfl⟩) (zz_pS Zc) rfl rfl hl.1 rfl (lv_room (Nat.le_of_ble_eq_true rfl)) dX7_ask_13 ⟨Nat.le_of_ble_eq_true rfl, Nat.le_of_ble_eq_true rfl⟩) rfl rfl (fun r24 u22 H21 locs22 hw23 Z23 => ?_)
      clear Z4
      subst r24
      have Z24 : zz_S D A s [(mo, .inr (7, [.ref ms, .ref mi, .ref ma, .int 0, .ref mts, .ref mtz, .ref mtn, .ref mh, .ref mhn, .ref mhw, .ref mhz, .ref mhr, .ref mcl, .ref mtp, .int 0, .int 0, .int 0, .int 0, .int 0, .int 0, .int 0, .int 0, .int 0, .int 0, .int 0, .ref mna, .ref mpi, .ref mca, .ref mwa, .int 0, .ref mrd])), (mh, .inl (k_mh, 5, .inl hf))] [(k_mh, .int)] H21 locs22 := Z23
      clear Z23
      by_cases w25 : 0 ≤ kind ∧ kind ≤ 5
      · refine zz_v (v := 1) (zz_wiT w25) ?_
        refine lv_if_ne (tgt := 22) hx hb dX7_ask_16 (by decide) (fun _ => ?_) (fun h => absurd h (by decide))
        refine lv_aload_n hx hb dX7_ask_22 rfl (lv_at hl 0 rfl) ?_
        refine zz_get X Z24 0 rfl rfl (fun w h => List.mem_cons_of_mem _ (List.mem_append_right _ h)) 7 rfl (zz_m 3 rfl) rfl dX7_ask_23 ?_
        refine lv_iload_n hx hb dX7_ask_26 rfl (lv_at hl 1 rfl) ?_
        refine zz_ild X Z24 1 0 rfl rfl (zz_in 4 5 rfl) dX7_ask_27 ?_
        refine zz_v (v := 0) ahf_4 ?_
        refine lv_if_ne (tgt := 35) hx hb dX7_ask_28 (by decide) (fun h => absurd (by decide) h) (fun _ => ?_)
        refine lv_ldcw (v := (-1000000011)) hx hb hown (hts _ (zz_m 4 rfl)) dX7_ask_31 ?_
        exact zz_iret X hr hlk Z24 () (by simp [sp_ask, w25]) [] [] (by decide +kernel) rfl rfl dX7_ask_34
      · refine zz_v (v := 0) (zz_wiF w25) ?_
        refine lv_if_ne (tgt := 22) hx hb dX7_ask_16 (by decide) (fun h => absurd (by decide) h) (fun _ => ?_)
        refine lv_ldc (v := (-1000000001)) hx hb hown (hts _ (zz_m 2 rfl)) dX7_ask_19 ?_
        exact zz_iret X hr hlk Z24 () (by simp [sp_ask, w25]) [] [] (by decide +kernel) rfl rfl dX7_ask_21
  · refine zz_v (v := 0) (zz_wiF w4) ?_
    refine lv_if_eq (tgt := 19) hx hb dX7_ask_4 (by decide) (fun _ => ?_) (fun h => absurd (by decide) h)
    refine lv_ldc (v := (-1000000001)) hx hb hown (hts _ (zz_m 2 rfl)) dX7_ask_19 ?_
    exact zz_iret X hr hlk Z4 () (by simp [sp_ask, w4]) [] [] (by decide +kernel) rfl rfl dX7_ask_21

set_option maxHeartbeats 4000000 in
set_option maxRecDepth 100000 in
theorem c7_item (l : Launch) (D : va_G) (mo : Nat) (ms : Nat) (mi : Nat) (ma : Nat) (mts : Nat) (mtz : Nat) (mtn : Nat) (mh : Nat) (mhn : Nat) (mhw : Nat) (mhz : Nat) (mhr : Nat) (mcl : Nat) (mtp : Nat) (mna : Nat) (mpi : Nat) (mca : Nat) (mwa : Nat) (mrd : Nat) (k_mh : ClassId) (hf : (Nat → Int32)) (slot : Int32) (place : Int32) (ahf_0 : hf 0 = 0) (ahf_1 : hf 1 = 0) (ahf_2 : hf 2 = 0) (ahf_3 : hf 3 = 0) (ahf_4 : hf 4 = 0) : zz_MI l yX7_item wsX7_item 2 45 0 0 D [.ref mo, .int slot, .int place] [(mo, .inr (7, [.ref ms, .ref mi, .ref ma, .int 0, .ref mts, .ref mtz, .ref mtn, .ref mh, .ref mhn, .ref mhw, .ref mhz, .ref mhr, .ref mcl, .ref mtp, .int 0, .int 0, .int 0, .int 0, .int 0, .int 0, .int 0, .int 0, .int 0, .int 0, .int 0, .ref mna, .ref mpi, .ref mca, .ref mwa, .int 0, .ref mrd])), (mh, .inl (k_mh, 5, .inl hf))] [(k_mh, .int)] (fun (r : Int32) (u : Unit) => r = sp_sl slot) (fun (u : Unit) => []) (fun (u : Unit) => []) := by
  intro sz
  refine Met.ofW (cc := cX7_item) (maxL := 4) (ret := (some .int)) (by decide) rfl ?_
  intro p e s m args below meth c s₁ B hml hv
  obtain ⟨rfl, hC⟩ := hv
  have hx := B.exec
  have hb := B.bytes
  have hr := B.returns
  have hts := atoms_spec (ws := wsX7_item) B.pre
  have hown : s.vm.findClass RX7 = some m.cls := findClass_of_methodNamed B.named
  have hlk := B.notSynchronized
  have X : CallFix p m c cX7_item 4 s _ wsX7_item RX7 := ⟨hx, hb, hml, hown, hts⟩
  have Z := zz_enter hC
  generalize va_A [(mo, .inr (7, [.ref ms, .ref mi, .ref ma, .int 0, .ref mts, .ref mtz, .ref mtn, .ref mh, .ref mhn, .ref mhw, .ref mhz, .ref mhr, .ref mcl, .ref mtp, .int 0, .int 0, .int 0, .int 0, .int 0, .int 0, .int 0, .int 0, .int 0, .int 0, .int 0, .ref mna, .ref mpi, .ref mca, .ref mwa, .int 0, .ref mrd])), (mh, .inl (k_mh, 5, .inl hf))] sz = A at Z ⊢
  have hl := lv_entry ([.ref mo, .int slot, .int place]) (n := 4) (Nat.le_of_ble_eq_true rfl)
  rw [lg_entry_eq]
  generalize (lg_sl ([.ref mo, .int slot, .int place]) ++ List.replicate (4 - (lg_sl ([.ref mo, .int slot, .int place])).length) Slot.unset).toArray = ls at hl ⊢
  have hl : lv_has ls 4 [(0, .ref mo), (1, .int slot), (2, .int place)] := hl
  refine lv_iload_n hx hb dX7_item_0 rfl (lv_at hl 1 rfl) ?_
  refine zz_ci (WC := []) (TC := []) (WR := [(mo, .inr (7, [.ref ms, .ref mi, .ref ma, .int 0, .ref mts, .ref mtz, .ref mtn, .ref mh, .ref mhn, .ref mhw, .ref mhz, .ref mhr, .ref mcl, .ref mtp, .int 0, .int 0, .int 0, .int 0, .int 0, .int 0, .int 0, .int 0, .int 0, .int 0, .int 0, .ref mna, .ref mpi, .ref mca, .ref mwa, .int 0, .ref mrd])), (mh, .inl (k_mh, 5, .inl hf))]) (TR := [(k_mh, .int)]) (k := 0) (n := 0) Z [] [0, 1] [] [0] rfl rfl (by decide +kernel) (by decide +kernel) (by decide +kernel) rfl rfl (fun Zc => va_runS (As := [.int slot]) (rest := []) X (c7_isSlot l D slot s.heap.size) (va_cwS 1 hts gX7_item_X7_isSlot rfl rfl rfl zh_X7_isSlot ⟨Nat.le_of_ble_eq_true rfl, Nat.le_of_ble_eq_true rfl⟩) (zz_pS Zc) rfl rfl hl.1 rfl (lv_room (Nat.le_of_ble_eq_true rfl)) dX7_item_1 ⟨Nat.le_of_ble_eq_true rfl, Nat.le_of_ble_eq_true rfl⟩) rfl rfl (fun r3 u1 H1 locs2 hw2 Z3 => ?_)
  clear Z
  subst r3
  have Z4 : zz_S D A s [(mo, .inr (7, [.ref ms, .ref mi, .ref ma, .int 0, .ref mts, .ref mtz, .ref mtn, .ref mh, .ref mhn, .ref mhw, .ref mhz, .ref mhr, .ref mcl, .ref mtp, .int 0, .int 0, .int 0, .int 0, .int 0, .int 0, .int 0, .int 0, .int 0, .int 0, .int 0, .ref mna, .ref mpi, .ref mca, .ref mwa, .int 0, .ref mrd])), (mh, .inl (k_mh, 5, .inl hf))] [(k_mh, .int)] H1 locs2 := Z3
  clear Z3
  by_cases w4 : 0 ≤ slot ∧ slot ≤ 4
  · obtain ⟨j, hj, e5⟩ := zz_rng 4 w4 (by decide)
    rcases (show j = 0 ∨ j = 1 ∨ j = 2 ∨ j = 3 ∨ j = 4 by omega) with rfl | rfl | rfl | rfl | rfl
    · have e5 : slot = 0 := e5
      subst e5
      refine zz_v (v := 1) (by decide) ?_
      refine lv_if_ne (tgt := 10) hx hb dX7_item_4 (by decide) (fun _ => ?_) (fun h => absurd h (by decide))
      refine lv_aload_n hx hb dX7_item_10 rfl (lv_at hl 0 rfl) ?_
      refine zz_get X Z4 0 rfl rfl (fun w h => List.mem_cons_of_mem _ (List.mem_append_right _ h)) 7 rfl (zz_m 2 rfl) rfl dX7_item_11 ?_
      refine lv_iload_n hx hb dX7_item_14 rfl (lv_at hl 1 rfl) ?_
      refine zz_ild X Z4 1 0 rfl rfl (zz_in 0 5 rfl) dX7_item_15 ?_
      refine zz_v (v := 0) ahf_0 ?_
      refine lv_iconst (v := 2) hx hb dX7_item_16 (by decide) ?_
      refine lv_icmp_eq (tgt := 38) hx hb dX7_item_17 (by decide) (fun h => absurd h (by decide)) (fun _ => ?_)
      refine lv_aload_n hx hb dX7_item_20 rfl (lv_at hl 0 rfl) ?_
      refine zz_get X Z4 0 rfl rfl (fun w h => List.mem_cons_of_mem _ (List.mem_append_right _ h)) 7 rfl (zz_m 2 rfl) rfl dX7_item_21 ?_
      refine lv_iload_n hx hb dX7_item_24 rfl (lv_at hl 1 rfl) ?_
      refine zz_ild X Z4 1 0 rfl rfl (zz_in 0 5 rfl) dX7_item_25 ?_
      refine zz_v (v := 0) ahf_0 ?_
      refine lv_if_ne (tgt := 35) hx hb dX7_item_26 (by decide) (fun h => absurd (by decide) h) (fun _ => ?_)
      refine lv_ldcw (v := (-1000000011)) hx hb hown (hts _ (zz_m 3 rfl)) dX7_item_29 ?_
      refine lv_goto (tgt := 37) hx hb dX7_item_32 (by decide) ?_
      exact zz_iret X hr hlk Z4 () (by simp [sp_sl]) [] [] (by decide +kernel) rfl rfl dX7_item_37
    · have e5 : slot = 1 := e5
      subst e5
      refine zz_v (v := 1) (by decide) ?_
      refine lv_if_ne (tgt := 10) hx hb dX7_item_4 (by decide) (fun _ => ?_) (fun h => absurd h (by decide))
      refine lv_aload_n hx hb dX7_item_10 rfl (lv_at hl 0 rfl) ?_
      refine zz_get X Z4 0 rfl rfl (fun w h => List.mem_cons_of_mem _ (List.mem_append_right _ h)) 7 rfl (zz_m 2 rfl) rfl dX7_item_11 ?_
      refine lv_iload_n hx hb dX7_item_14 rfl (lv_at hl 1 rfl) ?_
      refine zz_ild X Z4 1 0 rfl rfl (zz_in 1 5 rfl) dX7_item_15 ?_
      refine zz_v (v := 0) ahf_1 ?_
      refine lv_iconst (v := 2) hx hb dX7_item_16 (by decide) ?_
      refine lv_icmp_eq (tgt := 38) hx hb dX7_item_17 (by decide) (fun h => absurd h (by decide)) (fun _ => ?_)
      refine lv_aload_n hx hb dX7_item_20 rfl (lv_at hl 0 rfl) ?_
      refine zz_get X Z4 0 rfl rfl (fun w h => List.mem_cons_of_mem _ (List.mem_append_right _ h)) 7 rfl (zz_m 2 rfl) rfl dX7_item_21 ?_
      refine lv_iload_n hx hb dX7_item_24 rfl (lv_at hl 1 rfl) ?_
      refine zz_ild X Z4 1 0 rfl rfl (zz_in 1 5 rfl) dX7_item_25 ?_
      refine zz_v (v := 0) ahf_1 ?_
      refine lv_if_ne (tgt := 35) hx hb dX7_item_26 (by decide) (fun h => absurd (by decide) h) (fun _ => ?_)
      refine lv_ldcw (v := (-1000000011)) hx hb hown (hts _ (zz_m 3 rfl)) dX7_item_29 ?_
      refine lv_goto (tgt := 37) hx hb dX7_item_32 (by decide) ?_
      exact zz_iret X hr hlk Z4 () (by simp [sp_sl]) [] [] (by decide +kernel) rfl rfl dX7_item_37
    · have e5 : slot = 2 := e5
      subst e5
      refine zz_v (v := 1) (by decide) ?_
      refine lv_if_ne (tgt := 10) hx hb dX7_item_4 (by decide) (fun _ => ?_) (fun h => absurd h (by decide))
      refine lv_aload_n hx hb dX7_item_10 rfl (lv_at hl 0 rfl) ?_
      refine zz_get X Z4 0 rfl rfl (fun w h => List.mem_cons_of_mem _ (List.mem_append_right _ h)) 7 rfl (zz_m 2 rfl) rfl dX7_item_11 ?_
      refine lv_iload_n hx hb dX7_item_14 rfl (lv_at hl 1 rfl) ?_
      refine zz_ild X Z4 1 0 rfl rfl (zz_in 2 5 rfl) dX7_item_15 ?_
      refine zz_v (v := 0) ahf_2 ?_
      refine lv_iconst (v := 2) hx hb dX7_item_16 (by decide) ?_
      refine lv_icmp_eq (tgt := 38) hx hb dX7_item_17 (by decide) (fun h => absurd h (by decide)) (fun _ => ?_)
      refine lv_aload_n hx hb dX7_item_20 rfl (lv_at hl 0 rfl) ?_
      refine zz_get X Z4 0 rfl rfl (fun w h => List.mem_cons_of_mem _ (List.mem_append_right _ h)) 7 rfl (zz_m 2 rfl) rfl dX7_item_21 ?_
      refine lv_iload_n hx hb dX7_item_24 rfl (lv_at hl 1 rfl) ?_
      refine zz_ild X Z4 1 0 rfl rfl (zz_in 2 5 rfl) dX7_item_25 ?_
      refine zz_v (v := 0) ahf_2 ?_
      refine lv_if_ne (tgt := 35) hx hb dX7_item_26 (by decide) (fun h => absurd (by decide) h) (fun _ => ?_)
      refine lv_ldcw (v := (-1000000011)) hx hb hown (hts _ (zz_m 3 rfl)) dX7_item_29 ?_
      refine lv_goto (tgt := 37) hx hb dX7_item_32 (by decide) ?_
      exact zz_iret X hr hlk Z4 () (by simp [sp_sl]) [] [] (by decide +kernel) rfl rfl dX7_item_37
    · have e5 : slot = 3 := e5
      subst e5
      refine zz_v (v := 1) (by decide) ?_
      refine lv_if_ne (tgt := 10) hx hb dX7_item_4 (by decide) (fun _ => ?_) (fun h => absurd h (by decide))
      refine lv_aload_n hx hb dX7_item_10 rfl (lv_at hl 0 rfl) ?_
      refine zz_get X Z4 0 rfl rfl (fun w h => List.mem_cons_of_mem _ (List.mem_append_right _ h)) 7 rfl (zz_m 2 rfl) rfl dX7_item_11 ?_
      refine lv_iload_n hx hb dX7_item_14 rfl (lv_at hl 1 rfl) ?_
      refine zz_ild X Z4 1 0 rfl rfl (zz_in 3 5 rfl) dX7_item_15 ?_
      refine zz_v (v := 0) ahf_3 ?_
      refine lv_iconst (v := 2) hx hb dX7_item_16 (by decide) ?_
      refine lv_icmp_eq (tgt := 38) hx hb dX7_item_17 (by decide) (fun h => absurd h (by decide)) (fun _ => ?_)
      refine lv_aload_n hx hb dX7_item_20 rfl (lv_at hl 0 rfl) ?_
      refine zz_get X Z4 0 rfl rfl (fun w h => List.mem_cons_of_mem _ (List.mem_append_right _ h)) 7 rfl (zz_m 2 rfl) rfl dX7_item_21 ?_
      refine lv_iload_n hx hb dX7_item_24 rfl (lv_at hl 1 rfl) ?_
      refine zz_ild X Z4 1 0 rfl rfl (zz_in 3 5 rfl) dX7_item_25 ?_
      refine zz_v (v := 0) ahf_3 ?_
      refine lv_if_ne (tgt := 35) hx hb dX7_item_26 (by decide) (fun h => absurd (by decide) h) (fun _ => ?_)
      refine lv_ldcw (v := (-1000000011)) hx hb hown (hts _ (zz_m 3 rfl)) dX7_item_29 ?_
      refine lv_goto (tgt := 37) hx hb dX7_item_32 (by decide) ?_
      exact zz_iret X hr hlk Z4 () (by simp [sp_sl]) [] [] (by decide +kernel) rfl rfl dX7_item_37
    · have e5 : slot = 4 := e5
      subst e5
      refine zz_v (v := 1) (by decide) ?_
      refine lv_if_ne (tgt := 10) hx hb dX7_item_4 (by decide) (fun _ => ?_) (fun h => absurd h (by decide))
      refine lv_aload_n hx hb dX7_item_10 rfl (lv_at hl 0 rfl) ?_
      refine zz_get X Z4 0 rfl rfl (fun w h => List.mem_cons_of_mem _ (List.mem_append_right _ h)) 7 rfl (zz_m 2 rfl) rfl dX7_item_11 ?_
      refine lv_iload_n hx hb dX7_item_14 rfl (lv_at hl 1 rfl) ?_
      refine zz_ild X Z4 1 0 rfl rfl (zz_in 4 5 rfl) dX7_item_15 ?_
      refine zz_v (v := 0) ahf_4 ?_
      refine lv_iconst (v := 2) hx hb dX7_item_16 (by decide) ?_
      refine lv_icmp_eq (tgt := 38) hx hb dX7_item_17 (by decide) (fun h => absurd h (by decide)) (fun _ => ?_)
      refine lv_aload_n hx hb dX7_item_20 rfl (lv_at hl 0 rfl) ?_
      refine zz_get X Z4 0 rfl rfl (fun w h => List.mem_cons_of_mem _ (List.mem_append_right _ h)) 7 rfl (zz_m 2 rfl) rfl dX7_item_21 ?_
      refine lv_iload_n hx hb dX7_item_24 rfl (lv_at hl 1 rfl) ?_
      refine zz_ild X Z4 1 0 rfl rfl (zz_in 4 5 rfl) dX7_item_25 ?_
      refine zz_v (v := 0) ahf_4 ?_
      refine lv_if_ne (tgt := 35) hx hb dX7_item_26 (by decide) (fun h => absurd (by decide) h) (fun _ => ?_)
      refine lv_ldcw (v := (-1000000011)) hx hb hown (hts _ (zz_m 3 rfl)) dX7_item_29 ?_
      refine lv_goto (tgt := 37) hx hb dX7_item_32 (by decide) ?_
      exact zz_iret X hr hlk Z4 () (by simp [sp_sl]) [] [] (by decide +kernel) rfl rfl dX7_item_37
  · refine zz_v (v := 0) (zz_wiF w4) ?_
    refine lv_if_ne (tgt := 10) hx hb dX7_item_4 (by decide) (fun h => absurd (by decide) h) (fun _ => ?_)
    refine lv_ldc (v := (-1000000001)) hx hb hown (hts _ (zz_m 1 rfl)) dX7_item_7 ?_
    exact zz_iret X hr hlk Z4 () (by simp [sp_sl, w4]) [] [] (by decide +kernel) rfl rfl dX7_item_9

set_option maxHeartbeats 4000000 in
set_option maxRecDepth 100000 in
theorem c7_rest (l : Launch) (D : va_G) (mo : Nat) (ms : Nat) (mi : Nat) (ma : Nat) (mts : Nat) (mtz : Nat) (mtn : Nat) (mh : Nat) (mhn : Nat) (mhw : Nat) (mhz : Nat) (mhr : Nat) (mcl : Nat) (mtp : Nat) (mna : Nat) (mpi : Nat) (mca : Nat) (mwa : Nat) (mrd : Nat) (k_mh : ClassId) (hf : (Nat → Int32)) (slot : Int32) (n : Int32) (ahf_0 : hf 0 = 0) (ahf_1 : hf 1 = 0) (ahf_2 : hf 2 = 0) (ahf_3 : hf 3 = 0) (ahf_4 : hf 4 = 0) : zz_MI l yX7_rest wsX7_rest 2 45 0 0 D [.ref mo, .int slot, .int n] [(mo, .inr (7, [.ref ms, .ref mi, .ref ma, .int 0, .ref mts, .ref mtz, .ref mtn, .ref mh, .ref mhn, .ref mhw, .ref mhz, .ref mhr, .ref mcl, .ref mtp, .int 0, .int 0, .int 0, .int 0, .int 0, .int 0, .int 0, .int 0, .int 0, .int 0, .int 0, .ref mna, .ref mpi, .ref mca, .ref mwa, .int 0, .ref mrd])), (mh, .inl (k_mh, 5, .inl hf))] [(k_mh, .int)] (fun (r : Int32) (u : Unit) => r = sp_sl slot) (fun (u : Unit) => []) (fun (u : Unit) => []) := by
  intro sz
  refine Met.ofW (cc := cX7_rest) (maxL := 3) (ret := (some .int)) (by decide) rfl ?_
  intro p e s m args below meth c s₁ B hml hv
  obtain ⟨rfl, hC⟩ := hv
  have hx := B.exec
  have hb := B.bytes
  have hr := B.returns
  have hts := atoms_spec (ws := wsX7_rest) B.pre
  have hown : s.vm.findClass RX7 = some m.cls := findClass_of_methodNamed B.named
  have hlk := B.notSynchronized
  have X : CallFix p m c cX7_rest 3 s _ wsX7_rest RX7 := ⟨hx, hb, hml, hown, hts⟩
  have Z := zz_enter hC
  generalize va_A [(mo, .inr (7, [.ref ms, .ref mi, .ref ma, .int 0, .ref mts, .ref mtz, .ref mtn, .ref mh, .ref mhn, .ref mhw, .ref mhz, .ref mhr, .ref mcl, .ref mtp, .int 0, .int 0, .int 0, .int 0, .int 0, .int 0, .int 0, .int 0, .int 0, .int 0, .int 0, .ref mna, .ref mpi, .ref mca, .ref mwa, .int 0, .ref mrd])), (mh, .inl (k_mh, 5, .inl hf))] sz = A at Z ⊢
  have hl := lv_entry ([.ref mo, .int slot, .int n]) (n := 3) (Nat.le_of_ble_eq_true rfl)
  rw [lg_entry_eq]
  generalize (lg_sl ([.ref mo, .int slot, .int n]) ++ List.replicate (3 - (lg_sl ([.ref mo, .int slot, .int n])).length) Slot.unset).toArray = ls at hl ⊢
  have hl : lv_has ls 3 [(0, .ref mo), (1, .int slot), (2, .int n)] := hl
  refine lv_iload_n hx hb dX7_rest_0 rfl (lv_at hl 1 rfl) ?_
  refine zz_ci (WC := []) (TC := []) (WR := [(mo, .inr (7, [.ref ms, .ref mi, .ref ma, .int 0, .ref mts, .ref mtz, .ref mtn, .ref mh, .ref mhn, .ref mhw, .ref mhz, .ref mhr, .ref mcl, .ref mtp, .int 0, .int 0, .int 0, .int 0, .int 0, .int 0, .int 0, .int 0, .int 0, .int 0, .int 0, .ref mna, .ref mpi, .ref mca, .ref mwa, .int 0, .ref mrd])), (mh, .inl (k_mh, 5, .inl hf))]) (TR := [(k_mh, .int)]) (k := 0) (n := 0) Z [] [0, 1] [] [0] rfl rfl (by decide +kernel) (by decide +kernel) (by decide +kernel) rfl rfl (fun Zc => va_runS (As := [.int slot]) (rest := []) X (c7_isSlot l D slot s.heap.size) (va_cwS 1 hts gX7_rest_X7_isSlot rfl rfl rfl zh_X7_isSlot ⟨Nat.le_of_ble_eq_true rfl, Nat.le_of_ble_eq_true rfl⟩) (zz_pS Zc) rfl rfl hl.1 rfl (lv_room (Nat.le_of_ble_eq_true rfl)) dX7_rest_1 ⟨Nat.le_of_ble_eq_true rfl, Nat.le_of_ble_eq_true rfl⟩) rfl rfl (fun r3 u1 H1 locs2 hw2 Z3 => ?_)
  clear Z
  subst r3
  have Z4 : zz_S D A s [(mo, .inr (7, [.ref ms, .ref mi, .ref ma, .int 0, .ref mts, .ref mtz, .ref mtn, .ref mh, .ref mhn, .ref mhw, .ref mhz, .ref mhr, .ref mcl, .ref mtp, .int 0, .int 0, .int 0, .int 0, .int 0, .int 0, .int 0, .int 0, .int 0, .int 0, .int 0, .ref mna, .ref mpi, .ref mca, .ref mwa, .int 0, .ref mrd])), (mh, .inl (k_mh, 5, .inl hf))] [(k_mh, .int)] H1 locs2 := Z3
  clear Z3
  by_cases w4 : 0 ≤ slot ∧ slot ≤ 4
  · obtain ⟨j, hj, e5⟩ := zz_rng 4 w4 (by decide)
    rcases (show j = 0 ∨ j = 1 ∨ j = 2 ∨ j = 3 ∨ j = 4 by omega) with rfl | rfl | rfl | rfl | rfl
    · have e5 : slot = 0 := e5
      subst e5
      refine zz_v (v := 1) (by decide) ?_
      refine lv_if_ne (tgt := 10) hx hb dX7_rest_4 (by decide) (fun _ => ?_) (fun h => absurd h (by decide))
      refine lv_aload_n hx hb dX7_rest_10 rfl (lv_at hl 0 rfl) ?_
      refine zz_get X Z4 0 rfl rfl (fun w h => List.mem_cons_of_mem _ (List.mem_append_right _ h)) 7 rfl (zz_m 2 rfl) rfl dX7_rest_11 ?_
      refine lv_iload_n hx hb dX7_rest_14 rfl (lv_at hl 1 rfl) ?_
      refine zz_ild X Z4 1 0 rfl rfl (zz_in 0 5 rfl) dX7_rest_15 ?_
      refine zz_v (v := 0) ahf_0 ?_
      refine lv_iconst (v := 3) hx hb dX7_rest_16 (by decide) ?_
      refine lv_icmp_eq (tgt := 38) hx hb dX7_rest_17 (by decide) (fun h => absurd h (by decide)) (fun _ => ?_)
      refine lv_aload_n hx hb dX7_rest_20 rfl (lv_at hl 0 rfl) ?_
      refine zz_get X Z4 0 rfl rfl (fun w h => List.mem_cons_of_mem _ (List.mem_append_right _ h)) 7 rfl (zz_m 2 rfl) rfl dX7_rest_21 ?_
      refine lv_iload_n hx hb dX7_rest_24 rfl (lv_at hl 1 rfl) ?_
      refine zz_ild X Z4 1 0 rfl rfl (zz_in 0 5 rfl) dX7_rest_25 ?_
      refine zz_v (v := 0) ahf_0 ?_
      refine lv_if_ne (tgt := 35) hx hb dX7_rest_26 (by decide) (fun h => absurd (by decide) h) (fun _ => ?_)
      refine lv_ldcw (v := (-1000000011)) hx hb hown (hts _ (zz_m 3 rfl)) dX7_rest_29 ?_
      refine lv_goto (tgt := 37) hx hb dX7_rest_32 (by decide) ?_
      exact zz_iret X hr hlk Z4 () (by simp [sp_sl]) [] [] (by decide +kernel) rfl rfl dX7_rest_37
    · have e5 : slot = 1 := e5
      subst e5
      refine zz_v (v := 1) (by decide) ?_
      refine lv_if_ne (tgt := 10) hx hb dX7_rest_4 (by decide) (fun _ => ?_) (fun h => absurd h (by decide))
      refine lv_aload_n hx hb dX7_rest_10 rfl (lv_at hl 0 rfl) ?_
      refine zz_get X Z4 0 rfl rfl (fun w h => List.mem_cons_of_mem _ (List.mem_append_right _ h)) 7 rfl (zz_m 2 rfl) rfl dX7_rest_11 ?_
      refine lv_iload_n hx hb dX7_rest_14 rfl (lv_at hl 1 rfl) ?_
      refine zz_ild X Z4 1 0 rfl rfl (zz_in 1 5 rfl) dX7_rest_15 ?_
      refine zz_v (v := 0) ahf_1 ?_
      refine lv_iconst (v := 3) hx hb dX7_rest_16 (by decide) ?_
      refine lv_icmp_eq (tgt := 38) hx hb dX7_rest_17 (by decide) (fun h => absurd h (by decide)) (fun _ => ?_)
      refine lv_aload_n hx hb dX7_rest_20 rfl (lv_at hl 0 rfl) ?_
      refine zz_get X Z4 0 rfl rfl (fun w h => List.mem_cons_of_mem _ (List.mem_append_right _ h)) 7 rfl (zz_m 2 rfl) rfl dX7_rest_21 ?_
      refine lv_iload_n hx hb dX7_rest_24 rfl (lv_at hl 1 rfl) ?_
      refine zz_ild X Z4 1 0 rfl rfl (zz_in 1 5 rfl) dX7_rest_25 ?_
      refine zz_v (v := 0) ahf_1 ?_
      refine lv_if_ne (tgt := 35) hx hb dX7_rest_26 (by decide) (fun h => absurd (by decide) h) (fun _ => ?_)
      refine lv_ldcw (v := (-1000000011)) hx hb hown (hts _ (zz_m 3 rfl)) dX7_rest_29 ?_
      refine lv_goto (tgt := 37) hx hb dX7_rest_32 (by decide) ?_
      exact zz_iret X hr hlk Z4 () (by simp [sp_sl]) [] [] (by decide +kernel) rfl rfl dX7_rest_37
    · have e5 : slot = 2 := e5
      subst e5
      refine zz_v (v := 1) (by decide) ?_
      refine lv_if_ne (tgt := 10) hx hb dX7_rest_4 (by decide) (fun _ => ?_) (fun h => absurd h (by decide))
      refine lv_aload_n hx hb dX7_rest_10 rfl (lv_at hl 0 rfl) ?_
      refine zz_get X Z4 0 rfl rfl (fun w h => List.mem_cons_of_mem _ (List.mem_append_right _ h)) 7 rfl (zz_m 2 rfl) rfl dX7_rest_11 ?_
      refine lv_iload_n hx hb dX7_rest_14 rfl (lv_at hl 1 rfl) ?_
      refine zz_ild X Z4 1 0 rfl rfl (zz_in 2 5 rfl) dX7_rest_15 ?_
      refine zz_v (v := 0) ahf_2 ?_
      refine lv_iconst (v := 3) hx hb dX7_rest_16 (by decide) ?_
      refine lv_icmp_eq (tgt := 38) hx hb dX7_rest_17 (by decide) (fun h => absurd h (by decide)) (fun _ => ?_)
      refine lv_aload_n hx hb dX7_rest_20 rfl (lv_at hl 0 rfl) ?_
      refine zz_get X Z4 0 rfl rfl (fun w h => List.mem_cons_of_mem _ (List.mem_append_right _ h)) 7 rfl (zz_m 2 rfl) rfl dX7_rest_21 ?_
      refine lv_iload_n hx hb dX7_rest_24 rfl (lv_at hl 1 rfl) ?_
      refine zz_ild X Z4 1 0 rfl rfl (zz_in 2 5 rfl) dX7_rest_25 ?_
      refine zz_v (v := 0) ahf_2 ?_
      refine lv_if_ne (tgt := 35) hx hb dX7_rest_26 (by decide) (fun h => absurd (by decide) h) (fun _ => ?_)
      refine lv_ldcw (v := (-1000000011)) hx hb hown (hts _ (zz_m 3 rfl)) dX7_rest_29 ?_
      refine lv_goto (tgt := 37) hx hb dX7_rest_32 (by decide) ?_
      exact zz_iret X hr hlk Z4 () (by simp [sp_sl]) [] [] (by decide +kernel) rfl rfl dX7_rest_37
    · have e5 : slot = 3 := e5
      subst e5
      refine zz_v (v := 1) (by decide) ?_
      refine lv_if_ne (tgt := 10) hx hb dX7_rest_4 (by decide) (fun _ => ?_) (fun h => absurd h (by decide))
      refine lv_aload_n hx hb dX7_rest_10 rfl (lv_at hl 0 rfl) ?_
      refine zz_get X Z4 0 rfl rfl (fun w h => List.mem_cons_of_mem _ (List.mem_append_right _ h)) 7 rfl (zz_m 2 rfl) rfl dX7_rest_11 ?_
      refine lv_iload_n hx hb dX7_rest_14 rfl (lv_at hl 1 rfl) ?_
      refine zz_ild X Z4 1 0 rfl rfl (zz_in 3 5 rfl) dX7_rest_15 ?_
      refine zz_v (v := 0) ahf_3 ?_
      refine lv_iconst (v := 3) hx hb dX7_rest_16 (by decide) ?_
      refine lv_icmp_eq (tgt := 38) hx hb dX7_rest_17 (by decide) (fun h => absurd h (by decide)) (fun _ => ?_)
      refine lv_aload_n hx hb dX7_rest_20 rfl (lv_at hl 0 rfl) ?_
      refine zz_get X Z4 0 rfl rfl (fun w h => List.mem_cons_of_mem _ (List.mem_append_right _ h)) 7 rfl (zz_m 2 rfl) rfl dX7_rest_21 ?_
      refine lv_iload_n hx hb dX7_rest_24 rfl (lv_at hl 1 rfl) ?_
      refine zz_ild X Z4 1 0 rfl rfl (zz_in 3 5 rfl) dX7_rest_25 ?_
      refine zz_v (v := 0) ahf_3 ?_
      refine lv_if_ne (tgt := 35) hx hb dX7_rest_26 (by decide) (fun h => absurd (by decide) h) (fun _ => ?_)
      refine lv_ldcw (v := (-1000000011)) hx hb hown (hts _ (zz_m 3 rfl)) dX7_rest_29 ?_
      refine lv_goto (tgt := 37) hx hb dX7_rest_32 (by decide) ?_
      exact zz_iret X hr hlk Z4 () (by simp [sp_sl]) [] [] (by decide +kernel) rfl rfl dX7_rest_37
    · have e5 : slot = 4 := e5
      subst e5
      refine zz_v (v := 1) (by decide) ?_
      refine lv_if_ne (tgt := 10) hx hb dX7_rest_4 (by decide) (fun _ => ?_) (fun h => absurd h (by decide))
      refine lv_aload_n hx hb dX7_rest_10 rfl (lv_at hl 0 rfl) ?_
      refine zz_get X Z4 0 rfl rfl (fun w h => List.mem_cons_of_mem _ (List.mem_append_right _ h)) 7 rfl (zz_m 2 rfl) rfl dX7_rest_11 ?_
      refine lv_iload_n hx hb dX7_rest_14 rfl (lv_at hl 1 rfl) ?_
      refine zz_ild X Z4 1 0 rfl rfl (zz_in 4 5 rfl) dX7_rest_15 ?_
      refine zz_v (v := 0) ahf_4 ?_
      refine lv_iconst (v := 3) hx hb dX7_rest_16 (by decide) ?_
      refine lv_icmp_eq (tgt := 38) hx hb dX7_rest_17 (by decide) (fun h => absurd h (by decide)) (fun _ => ?_)
      refine lv_aload_n hx hb dX7_rest_20 rfl (lv_at hl 0 rfl) ?_
      refine zz_get X Z4 0 rfl rfl (fun w h => List.mem_cons_of_mem _ (List.mem_append_right _ h)) 7 rfl (zz_m 2 rfl) rfl dX7_rest_21 ?_
      refine lv_iload_n hx hb dX7_rest_24 rfl (lv_at hl 1 rfl) ?_
      refine zz_ild X Z4 1 0 rfl rfl (zz_in 4 5 rfl) dX7_rest_25 ?_
      refine zz_v (v := 0) ahf_4 ?_
      refine lv_if_ne (tgt := 35) hx hb dX7_rest_26 (by decide) (fun h => absurd (by decide) h) (fun _ => ?_)
      refine lv_ldcw (v := (-1000000011)) hx hb hown (hts _ (zz_m 3 rfl)) dX7_rest_29 ?_
      refine lv_goto (tgt := 37) hx hb dX7_rest_32 (by decide) ?_
      exact zz_iret X hr hlk Z4 () (by simp [sp_sl]) [] [] (by decide +kernel) rfl rfl dX7_rest_37
  · refine zz_v (v := 0) (zz_wiF w4) ?_
    refine lv_if_ne (tgt := 10) hx hb dX7_rest_4 (by decide) (fun h => absurd (by decide) h) (fun _ => ?_)
    refine lv_ldc (v := (-1000000001)) hx hb hown (hts _ (zz_m 1 rfl)) dX7_rest_7 ?_
    exact zz_iret X hr hlk Z4 () (by simp [sp_sl, w4]) [] [] (by decide +kernel) rfl rfl dX7_rest_9

set_option maxHeartbeats 4000000 in
set_option maxRecDepth 100000 in
theorem c7_lay (l : Launch) (D : va_G) (mo : Nat) (ms : Nat) (mi : Nat) (ma : Nat) (mts : Nat) (mtz : Nat) (mtn : Nat) (mh : Nat) (mhn : Nat) (mhw : Nat) (mhz : Nat) (mhr : Nat) (mcl : Nat) (mtp : Nat) (mna : Nat) (mpi : Nat) (mca : Nat) (mwa : Nat) (mrd : Nat) (kms : ClassId) (f : (Nat → Int32)) (k_mts : ClassId) (tsf : (Nat → Int32)) (k_mh : ClassId) (hf : (Nat → Int32)) (k_mhn : ClassId) (lf8 : (Nat → Int32)) (k_mhw : ClassId) (lf9 : (Nat → Int32)) (k_mhz : ClassId) (lf10 : (Nat → Int32)) (k_mhr : ClassId) (lf11 : (Nat → Int32)) (k_mtn : ClassId) (lf6 : (Nat → Int32)) (k_mtz : ClassId) (lf5 : (Nat → Int32)) (slot : Int32) (thing : Int32) (k : Int32) (af_0 : f 0 = 0) (af_1 : f 1 = 0) (af_2 : f 2 = 0) (af_3 : f 3 = 0) (af_4 : f 4 = 0) (af_5 : f 5 = 0) (af_6 : f 6 = 1) (af_7 : f 7 = 0) (af_8 : f 8 = 3) (af_9 : f 9 = 10) (af_10 : f 10 = 0) (atsf_0 : tsf 0 = (-1)) (atsf_1 : tsf 1 = (-1)) (atsf_2 : tsf 2 = (-1)) (atsf_3 : tsf 3 = (-1)) (ahf_0 : hf 0 = 0) (ahf_1 : hf 1 = 0) (ahf_2 : hf 2 = 0) (ahf_3 : hf 3 = 0) (ahf_4 : hf 4 = 0) : zz_MI l yX7_lay wsX7_lay 2 46 0 0 D [.ref mo, .int slot, .int thing, .int k] [(mo, .inr (7, [.ref ms, .ref mi, .ref ma, .int 0, .ref mts, .ref mtz, .ref mtn, .ref mh, .ref mhn, .ref mhw, .ref mhz, .ref mhr, .ref mcl, .ref mtp, .int 0, .int 0, .int 0, .int 0, .int 0, .int 0, .int 0, .int 0, .int 0, .int 0, .int 0, .ref mna, .ref mpi, .ref mca, .ref mwa, .int 0, .ref mrd])), (ms, .inl (kms, 3047, .inl f)), (mts, .inl (k_mts, 4, .inl tsf)), (mh, .inl (k_mh, 5, .inl hf)), (mhn, .inl (k_mhn, 5, .inl lf8)), (mhw, .inl (k_mhw, 5, .inl lf9)), (mhz, .inl (k_mhz, 5, .inl lf10)), (mhr, .inl (k_mhr, 120, .inl lf11)), (mtn, .inl (k_mtn, 96, .inl lf6)), (mtz, .inl (k_mtz, 4, .inl lf5))] [(kms, .int), (k_mts, .int), (k_mh, .int), (k_mhn, .int), (k_mhw, .int), (k_mhz, .int), (k_mhr, .int), (k_mtn, .int), (k_mtz, .int)] (fun (r : Int32) (u : Unit) => r = sp_lay slot thing k) (fun (u : Unit) => []) (fun (u : Unit) => []) := by
  intro sz
  refine Met.ofW (cc := cX7_lay) (maxL := 7) (ret := (some .int)) (by decide) rfl ?_
  intro p e s m args below meth c s₁ B hml hv
  obtain ⟨rfl, hC⟩ := hv
  have hx := B.exec
  have hb := B.bytes
  have hr := B.returns
  have hts := atoms_spec (ws := wsX7_lay) B.pre
  have hown : s.vm.findClass RX7 = some m.cls := findClass_of_methodNamed B.named
  have hlk := B.notSynchronized
  have X : CallFix p m c cX7_lay 7 s _ wsX7_lay RX7 := ⟨hx, hb, hml, hown, hts⟩
  have Z := zz_enter hC
  generalize va_A [(mo, .inr (7, [.ref ms, .ref mi, .ref ma, .int 0, .ref mts, .ref mtz, .ref mtn, .ref mh, .ref mhn, .ref mhw, .ref mhz, .ref mhr, .ref mcl, .ref mtp, .int 0, .int 0, .int 0, .int 0, .int 0, .int 0, .int 0, .int 0, .int 0, .int 0, .int 0, .ref mna, .ref mpi, .ref mca, .ref mwa, .int 0, .ref mrd])), (ms, .inl (kms, 3047, .inl f)), (mts, .inl (k_mts, 4, .inl tsf)), (mh, .inl (k_mh, 5, .inl hf)), (mhn, .inl (k_mhn, 5, .inl lf8)), (mhw, .inl (k_mhw, 5, .inl lf9)), (mhz, .inl (k_mhz, 5, .inl lf10)), (mhr, .inl (k_mhr, 120, .inl lf11)), (mtn, .inl (k_mtn, 96, .inl lf6)), (mtz, .inl (k_mtz, 4, .inl lf5))] sz = A at Z ⊢
  have hl := lv_entry ([.ref mo, .int slot, .int thing, .int k]) (n := 7) (Nat.le_of_ble_eq_true rfl)
  rw [lg_entry_eq]
  generalize (lg_sl ([.ref mo, .int slot, .int thing, .int k]) ++ List.replicate (7 - (lg_sl ([.ref mo, .int slot, .int thing, .int k])).length) Slot.unset).toArray = ls at hl ⊢
  have hl : lv_has ls 7 [(0, .ref mo), (1, .int slot), (2, .int thing), (3, .int k)] := hl
  rcases zz_sw 3 thing with s1 | ⟨j, hj, s1⟩
  · refine lv_iload_n hx hb dX7_lay_0 rfl (lv_at hl 2 rfl) ?_
    refine lv_if_eq (tgt := 34) hx hb dX7_lay_1 (by decide) (fun h => absurd h (zz_swn (v := 0) s1 (by decide))) (fun _ => ?_)
    refine lv_iload_n hx hb dX7_lay_4 rfl (lv_at hl 2 rfl) ?_
    refine lv_iconst (v := 3) hx hb dX7_lay_5 (by decide) ?_
    refine lv_icmp_eq (tgt := 34) hx hb dX7_lay_6 (by decide) (fun h => absurd h (zz_swn (v := 3) s1 (by decide))) (fun _ => ?_)
    refine lv_iload_n hx hb dX7_lay_9 rfl (lv_at hl 2 rfl) ?_
    refine lv_iconst (v := 1) hx hb dX7_lay_10 (by decide) ?_
    refine lv_icmp_ne (tgt := 22) hx hb dX7_lay_11 (by decide) (fun _ => ?_) (fun h => absurd h (zz_swn (v := 1) s1 (by decide)))
    refine lv_iload_n hx hb dX7_lay_22 rfl (lv_at hl 2 rfl) ?_
    refine lv_iconst (v := 2) hx hb dX7_lay_23 (by decide) ?_
    refine lv_icmp_ne (tgt := 38) hx hb dX7_lay_24 (by decide) (fun _ => ?_) (fun h => absurd h (zz_swn (v := 2) s1 (by decide)))
    refine lv_iconst (v := 0) hx hb dX7_lay_38 (by decide) ?_
    refine lv_istore (lv' := [(4, .int 0), (0, .ref mo), (1, .int slot), (2, .int thing), (3, .int k)]) hx hb dX7_lay_39 hl (by decide) rfl (fun ls1 hl2 => ?_)
    clear hl
    refine lv_iload_n hx hb dX7_lay_41 rfl (lv_at hl2 2 rfl) ?_
    refine zz_ci (WC := []) (TC := []) (WR := [(mo, .inr (7, [.ref ms, .ref mi, .ref ma, .int 0, .ref mts, .ref mtz, .ref mtn, .ref mh, .ref mhn, .ref mhw, .ref mhz, .ref mhr, .ref mcl, .ref mtp, .int 0, .int 0, .int 0, .int 0, .int 0, .int 0, .int 0, .int 0, .int 0, .int 0, .int 0, .ref mna, .ref mpi, .ref mca, .ref mwa, .int 0, .ref mrd])), (ms, .inl (kms, 3047, .inl f)), (mts, .inl (k_mts, 4, .inl tsf)), (mh, .inl (k_mh, 5, .inl hf)), (mhn, .inl (k_mhn, 5, .inl lf8)), (mhw, .inl (k_mhw, 5, .inl lf9)), (mhz, .inl (k_mhz, 5, .inl lf10)), (mhr, .inl (k_mhr, 120, .inl lf11)), (mtn, .inl (k_mtn, 96, .inl lf6)), (mtz, .inl (k_mtz, 4, .inl lf5))]) (TR := [(kms, .int), (k_mts, .int), (k_mh, .int), (k_mhn, .int), (k_mhw, .int), (k_mhz, .int), (k_mhr, .int), (k_mtn, .int), (k_mtz, .int)]) (k := 0) (n := 0) Z [] [0, 1, 2, 3, 4, 5, 6, 7, 8, 9] [] [0, 1, 2, 3, 4, 5, 6, 7, 8] rfl rfl (by decide +kernel) (by decide +kernel) (by decide +kernel) rfl rfl (fun Zc => va_runS (As := [.int slot]) (rest := []) X (c7_isSlot l D slot s.heap.size) (va_cwS 1 hts gX7_lay_X7_isSlot rfl rfl rfl zh_X7_isSlot ⟨Nat.le_of_ble_eq_true rfl, Nat.le_of_ble_eq_true rfl⟩) (zz_pS Zc) rfl rfl hl2.1 rfl (lv_room (Nat.le_of_ble_eq_true rfl)) dX7_lay_42 ⟨Nat.le_of_ble_eq_true rfl, Nat.le_of_ble_eq_true rfl⟩) rfl rfl (fun r4 u2 H3 locs4 hw3 Z5 => ?_)
    clear Z
    subst r4
    have Z6 : zz_S D A s [(mo, .inr (7, [.ref ms, .ref mi, .ref ma, .int 0, .ref mts, .ref mtz, .ref mtn, .ref mh, .ref mhn, .ref mhw, .ref mhz, .ref mhr, .ref mcl, .ref mtp, .int 0, .int 0, .int 0, .int 0, .int 0, .int 0, .int 0, .int 0, .int 0, .int 0, .int 0, .ref mna, .ref mpi, .ref mca, .ref mwa, .int 0, .ref mrd])), (ms, .inl (kms, 3047, .inl f)), (mts, .inl (k_mts, 4, .inl tsf)), (mh, .inl (k_mh, 5, .inl hf)), (mhn, .inl (k_mhn, 5, .inl lf8)), (mhw, .inl (k_mhw, 5, .inl lf9)), (mhz, .inl (k_mhz, 5, .inl lf10)), (mhr, .inl (k_mhr, 120, .inl lf11)), (mtn, .inl (k_mtn, 96, .inl lf6)), (mtz, .inl (k_mtz, 4, .inl lf5))] [(kms, .int), (k_mts, .int), (k_mh, .int), (k_mhn, .int), (k_mhw, .int), (k_mhz, .int), (k_mhr, .int), (k_mtn, .int), (k_mtz, .int)] H3 locs4 := Z5
    clear Z5
    by_cases w5 : 0 ≤ slot ∧ slot ≤ 4
    · obtain ⟨j, hj, e6⟩ := zz_rng 4 w5 (by decide)
      rcases (show j = 0 ∨ j = 1 ∨ j = 2 ∨ j = 3 ∨ j = 4 by omega) with rfl | rfl | rfl | rfl | rfl
      · have e6 : slot = 0 := e6
        subst e6
        refine zz_v (v := 1) (by decide) ?_
        refine lv_if_eq (tgt := 53) hx hb dX7_lay_45 (by decide) (fun h => absurd h (by decide)) (fun _ => ?_)
        refine lv_iload hx hb dX7_lay_48 (lv_at hl2 0 rfl) ?_
        refine lv_if_ne (tgt := 56) hx hb dX7_lay_50 (by decide) (fun h => absurd (by decide) h) (fun _ => ?_)
        refine lv_ldc (v := (-1000000001)) hx hb hown (hts _ (zz_m 1 rfl)) dX7_lay_53 ?_
        exact zz_iret X hr hlk Z6 () (by simp [sp_lay, (zz_swr (hi := 3) s1 (by decide))]) [] [] (by decide +kernel) rfl rfl dX7_lay_55
      · have e6 : slot = 1 := e6
        subst e6
        refine zz_v (v := 1) (by decide) ?_
        refine lv_if_eq (tgt := 53) hx hb dX7_lay_45 (by decide) (fun h => absurd h (by decide)) (fun _ => ?_)
        refine lv_iload hx hb dX7_lay_48 (lv_at hl2 0 rfl) ?_
        refine lv_if_ne (tgt := 56) hx hb dX7_lay_50 (by decide) (fun h => absurd (by decide) h) (fun _ => ?_)
        refine lv_ldc (v := (-1000000001)) hx hb hown (hts _ (zz_m 1 rfl)) dX7_lay_53 ?_
        exact zz_iret X hr hlk Z6 () (by simp [sp_lay, (zz_swr (hi := 3) s1 (by decide))]) [] [] (by decide +kernel) rfl rfl dX7_lay_55
      · have e6 : slot = 2 := e6
        subst e6
        refine zz_v (v := 1) (by decide) ?_
        refine lv_if_eq (tgt := 53) hx hb dX7_lay_45 (by decide) (fun h => absurd h (by decide)) (fun _ => ?_)
        refine lv_iload hx hb dX7_lay_48 (lv_at hl2 0 rfl) ?_
        refine lv_if_ne (tgt := 56) hx hb dX7_lay_50 (by decide) (fun h => absurd (by decide) h) (fun _ => ?_)
        refine lv_ldc (v := (-1000000001)) hx hb hown (hts _ (zz_m 1 rfl)) dX7_lay_53 ?_
        exact zz_iret X hr hlk Z6 () (by simp [sp_lay, (zz_swr (hi := 3) s1 (by decide))]) [] [] (by decide +kernel) rfl rfl dX7_lay_55
      · have e6 : slot = 3 := e6
        subst e6
        refine zz_v (v := 1) (by decide) ?_
        refine lv_if_eq (tgt := 53) hx hb dX7_lay_45 (by decide) (fun h => absurd h (by decide)) (fun _ => ?_)
        refine lv_iload hx hb dX7_lay_48 (lv_at hl2 0 rfl) ?_
        refine lv_if_ne (tgt := 56) hx hb dX7_lay_50 (by decide) (fun h => absurd (by decide) h) (fun _ => ?_)
        refine lv_ldc (v := (-1000000001)) hx hb hown (hts _ (zz_m 1 rfl)) dX7_lay_53 ?_
        exact zz_iret X hr hlk Z6 () (by simp [sp_lay, (zz_swr (hi := 3) s1 (by decide))]) [] [] (by decide +kernel) rfl rfl dX7_lay_55
      · have e6 : slot = 4 := e6
        subst e6
        refine zz_v (v := 1) (by decide) ?_
        refine lv_if_eq (tgt := 53) hx hb dX7_lay_45 (by decide) (fun h => absurd h (by decide)) (fun _ => ?_)
        refine lv_iload hx hb dX7_lay_48 (lv_at hl2 0 rfl) ?_
        refine lv_if_ne (tgt := 56) hx hb dX7_lay_50 (by decide) (fun h => absurd (by decide) h) (fun _ => ?_)
        refine lv_ldc (v := (-1000000001)) hx hb hown (hts _ (zz_m 1 rfl)) dX7_lay_53 ?_
        exact zz_iret X hr hlk Z6 () (by simp [sp_lay, (zz_swr (hi := 3) s1 (by decide))]) [] [] (by decide +kernel) rfl rfl dX7_lay_55
    · refine zz_v (v := 0) (zz_wiF w5) ?_
      refine lv_if_eq (tgt := 53) hx hb dX7_lay_45 (by decide) (fun _ => ?_) (fun h => absurd (by decide) h)
      refine lv_ldc (v := (-1000000001)) hx hb hown (hts _ (zz_m 1 rfl)) dX7_lay_53 ?_
      exact zz_iret X hr hlk Z6 () (by simp [sp_lay, (zz_swr (hi := 3) s1 (by decide)), w5]) [] [] (by decide +kernel) rfl rfl dX7_lay_55
  · rcases (show j = 0 ∨ j = 1 ∨ j = 2 ∨ j = 3 by omega) with rfl | rfl | rfl | rfl
    · have s1 : thing = 0 := s1
      subst s1
      refine lv_iload_n hx hb dX7_lay_0 rfl (lv_at hl 2 rfl) ?_
      refine lv_if_eq (tgt := 34) hx hb dX7_lay_1 (by decide) (fun _ => ?_) (fun h => absurd (by decide) h)
      refine lv_iconst (v := 1) hx hb dX7_lay_34 (by decide) ?_
      refine lv_goto (tgt := 39) hx hb dX7_lay_35 (by decide) ?_
      refine lv_istore (lv' := [(4, .int 1), (0, .ref mo), (1, .int slot), (2, .int 0), (3, .int k)]) hx hb dX7_lay_39 hl (by decide) rfl (fun ls7 hl8 => ?_)
      clear hl
      refine lv_iload_n hx hb dX7_lay_41 rfl (lv_at hl8 2 rfl) ?_
      refine zz_ci (WC := []) (TC := []) (WR := [(mo, .inr (7, [.ref ms, .ref mi, .ref ma, .int 0, .ref mts, .ref mtz, .ref mtn, .ref mh, .ref mhn, .ref mhw, .ref mhz, .ref mhr, .ref mcl, .ref mtp, .int 0, .int 0, .int 0, .int 0, .int 0, .int 0, .int 0, .int 0, .int 0, .int 0, .int 0, .ref mna, .ref mpi, .ref mca, .ref mwa, .int 0, .ref mrd])), (ms, .inl (kms, 3047, .inl f)), (mts, .inl (k_mts, 4, .inl tsf)), (mh, .inl (k_mh, 5, .inl hf)), (mhn, .inl (k_mhn, 5, .inl lf8)), (mhw, .inl (k_mhw, 5, .inl lf9)), (mhz, .inl (k_mhz, 5, .inl lf10)), (mhr, .inl (k_mhr, 120, .inl lf11)), (mtn, .inl (k_mtn, 96, .inl lf6)), (mtz, .inl (k_mtz, 4, .inl lf5))]) (TR := [(kms, .int), (k_mts, .int), (k_mh, .int), (k_mhn, .int), (k_mhw, .int), (k_mhz, .int), (k_mhr, .int), (k_mtn, .int), (k_mtz, .int)]) (k := 0) (n := 0) Z [] [0, 1, 2, 3, 4, 5, 6, 7, 8, 9] [] [0, 1, 2, 3, 4, 5, 6, 7, 8] rfl rfl (by decide +kernel) (by decide +kernel) (by decide +kernel) rfl rfl (fun Zc => va_runS (As := [.int slot]) (rest := []) X (c7_isSlot l D slot s.heap.size) (va_cwS 1 hts gX7_lay_X7_isSlot rfl rfl rfl zh_X7_isSlot ⟨Nat.le_of_ble_eq_true rfl, Nat.le_of_ble_eq_true rfl⟩) (zz_pS Zc) rfl rfl hl8.1 rfl (lv_room (Nat.le_of_ble_eq_true rfl)) dX7_lay_42 ⟨Nat.le_of_ble_eq_true rfl, Nat.le_of_ble_eq_true rfl⟩) rfl rfl (fun r9 u7 H9 locs10 hw8 Z11 => ?_)
      clear Z
      subst r9
      have Z12 : zz_S D A s [(mo, .inr (7, [.ref ms, .ref mi, .ref ma, .int 0, .ref mts, .ref mtz, .ref mtn, .ref mh, .ref mhn, .ref mhw, .ref mhz, .ref mhr, .ref mcl, .ref mtp, .int 0, .int 0, .int 0, .int 0, .int 0, .int 0, .int 0, .int 0, .int 0, .int 0, .int 0, .ref mna, .ref mpi, .ref mca, .ref mwa, .int 0, .ref mrd])), (ms, .inl (kms, 3047, .inl f)), (mts, .inl (k_mts, 4, .inl tsf)), (mh, .inl (k_mh, 5, .inl hf)), (mhn, .inl (k_mhn, 5, .inl lf8)), (mhw, .inl (k_mhw, 5, .inl lf9)), (mhz, .inl (k_mhz, 5, .inl lf10)), (mhr, .inl (k_mhr, 120, .inl lf11)), (mtn, .inl (k_mtn, 96, .inl lf6)), (mtz, .inl (k_mtz, 4, .inl lf5))] [(kms, .int), (k_mts, .int), (k_mh, .int), (k_mhn, .int), (k_mhw, .int), (k_mhz, .int), (k_mhr, .int), (k_mtn, .int), (k_mtz, .int)] H9 locs10 := Z11
      clear Z11
      by_cases w10 : 0 ≤ slot ∧ slot ≤ 4
      · obtain ⟨j, hj, e11⟩ := zz_rng 4 w10 (by decide)
        rcases (show j = 0 ∨ j = 1 ∨ j = 2 ∨ j = 3 ∨ j = 4 by omega) with rfl | rfl | rfl | rfl | rfl
        · have e11 : slot = 0 := e11
          subst e11
          refine zz_v (v := 1) (by decide) ?_
          refine lv_if_eq (tgt := 53) hx hb dX7_lay_45 (by decide) (fun h => absurd h (by decide)) (fun _ => ?_)
          refine lv_iload hx hb dX7_lay_48 (lv_at hl8 0 rfl) ?_
          refine lv_if_ne (tgt := 56) hx hb dX7_lay_50 (by decide) (fun _ => ?_) (fun h => absurd h (by decide))
          refine lv_iload_n hx hb dX7_lay_56 rfl (lv_at hl8 3 rfl) ?_
          refine lv_iconst (v := 2) hx hb dX7_lay_57 (by decide) ?_
          refine lv_icmp_ne (tgt := 74) hx hb dX7_lay_58 (by decide) (fun _ => ?_) (fun h => absurd h (by decide))
          refine lv_aload_n hx hb dX7_lay_74 rfl (lv_at hl8 1 rfl) ?_
          refine zz_get X Z12 0 rfl rfl (fun w h => List.mem_cons_of_mem _ (List.mem_append_right _ h)) 7 rfl (zz_m 4 rfl) rfl dX7_lay_75 ?_
          refine lv_iload_n hx hb dX7_lay_78 rfl (lv_at hl8 2 rfl) ?_
          refine zz_ild X Z12 3 2 rfl rfl (zz_in 0 5 rfl) dX7_lay_79 ?_
          refine zz_v (v := 0) ahf_0 ?_
          refine lv_istore (lv' := [(5, .int 0), (4, .int 1), (0, .ref mo), (1, .int 0), (2, .int 0), (3, .int k)]) hx hb dX7_lay_80 hl8 (by decide) rfl (fun ls13 hl14 => ?_)
          clear hl8
          refine lv_aload_n hx hb dX7_lay_82 rfl (lv_at hl14 2 rfl) ?_
          refine zz_get X Z12 0 rfl rfl (fun w h => List.mem_cons_of_mem _ (List.mem_append_right _ h)) 7 rfl (zz_m 4 rfl) rfl dX7_lay_83 ?_
          refine lv_iload_n hx hb dX7_lay_86 rfl (lv_at hl14 3 rfl) ?_
          refine lv_iload_n hx hb dX7_lay_87 rfl (lv_at hl14 4 rfl) ?_
          refine zz_istN (WS' := fun f12 => [(mo, .inr (7, [.ref ms, .ref mi, .ref ma, .int 0, .ref mts, .ref mtz, .ref mtn, .ref mh, .ref mhn, .ref mhw, .ref mhz, .ref mhr, .ref mcl, .ref mtp, .int 0, .int 0, .int 0, .int 0, .int 0, .int 0, .int 0, .int 0, .int 0, .int 0, .int 0, .ref mna, .ref mpi, .ref mca, .ref mwa, .int 0, .ref mrd])), (ms, .inl (kms, 3047, .inl f)), (mts, .inl (k_mts, 4, .inl tsf)), (mh, .inl (k_mh, 5, .inl f12)), (mhn, .inl (k_mhn, 5, .inl lf8)), (mhw, .inl (k_mhw, 5, .inl lf9)), (mhz, .inl (k_mhz, 5, .inl lf10)), (mhr, .inl (k_mhr, 120, .inl lf11)), (mtn, .inl (k_mtn, 96, .inl lf6)), (mtz, .inl (k_mtz, 4, .inl lf5))]) X Z12 3 2 rfl rfl (zz_in 0 5 rfl) dX7_lay_88 (fun _ => rfl) (fun f12 ef13 H15 locs16 Z17 => ?_)
          clear Z12
          refine lv_aload_n hx hb dX7_lay_89 rfl (lv_at hl14 2 rfl) ?_
          refine zz_get X Z17 0 rfl rfl (fun w h => List.mem_cons_of_mem _ (List.mem_append_right _ h)) 8 rfl (zz_m 5 rfl) rfl dX7_lay_90 ?_
          refine lv_iload_n hx hb dX7_lay_93 rfl (lv_at hl14 3 rfl) ?_
          refine lv_iload_n hx hb dX7_lay_94 rfl (lv_at hl14 4 rfl) ?_
          refine lv_iconst (v := 1) hx hb dX7_lay_95 (by decide) ?_
          refine lv_icmp_ne (tgt := 108) hx hb dX7_lay_96 (by decide) (fun _ => ?_) (fun h => absurd h (by decide))
          refine lv_iload_n hx hb dX7_lay_108 rfl (lv_at hl14 5 rfl) ?_
          refine zz_istN (WS' := fun f14 => [(mo, .inr (7, [.ref ms, .ref mi, .ref ma, .int 0, .ref mts, .ref mtz, .ref mtn, .ref mh, .ref mhn, .ref mhw, .ref mhz, .ref mhr, .ref mcl, .ref mtp, .int 0, .int 0, .int 0, .int 0, .int 0, .int 0, .int 0, .int 0, .int 0, .int 0, .int 0, .ref mna, .ref mpi, .ref mca, .ref mwa, .int 0, .ref mrd])), (ms, .inl (kms, 3047, .inl f)), (mts, .inl (k_mts, 4, .inl tsf)), (mh, .inl (k_mh, 5, .inl f12)), (mhn, .inl (k_mhn, 5, .inl f14)), (mhw, .inl (k_mhw, 5, .inl lf9)), (mhz, .inl (k_mhz, 5, .inl lf10)), (mhr, .inl (k_mhr, 120, .inl lf11)), (mtn, .inl (k_mtn, 96, .inl lf6)), (mtz, .inl (k_mtz, 4, .inl lf5))]) X Z17 4 3 rfl rfl (zz_in 0 5 rfl) dX7_lay_109 (fun _ => rfl) (fun f14 ef15 H18 locs19 Z20 => ?_)
          clear Z17
          refine lv_aload_n hx hb dX7_lay_110 rfl (lv_at hl14 2 rfl) ?_
          refine zz_get X Z20 0 rfl rfl (fun w h => List.mem_cons_of_mem _ (List.mem_append_right _ h)) 9 rfl (zz_m 6 rfl) rfl dX7_lay_111 ?_
          refine lv_iload_n hx hb dX7_lay_114 rfl (lv_at hl14 3 rfl) ?_
          refine lv_iload_n hx hb dX7_lay_115 rfl (lv_at hl14 4 rfl) ?_
          refine lv_iconst (v := 1) hx hb dX7_lay_116 (by decide) ?_
          refine lv_icmp_ne (tgt := 128) hx hb dX7_lay_117 (by decide) (fun _ => ?_) (fun h => absurd h (by decide))
          refine lv_iconst (v := 0) hx hb dX7_lay_128 (by decide) ?_
          refine zz_istN (WS' := fun f16 => [(mo, .inr (7, [.ref ms, .ref mi, .ref ma, .int 0, .ref mts, .ref mtz, .ref mtn, .ref mh, .ref mhn, .ref mhw, .ref mhz, .ref mhr, .ref mcl, .ref mtp, .int 0, .int 0, .int 0, .int 0, .int 0, .int 0, .int 0, .int 0, .int 0, .int 0, .int 0, .ref mna, .ref mpi, .ref mca, .ref mwa, .int 0, .ref mrd])), (ms, .inl (kms, 3047, .inl f)), (mts, .inl (k_mts, 4, .inl tsf)), (mh, .inl (k_mh, 5, .inl f12)), (mhn, .inl (k_mhn, 5, .inl f14)), (mhw, .inl (k_mhw, 5, .inl f16)), (mhz, .inl (k_mhz, 5, .inl lf10)), (mhr, .inl (k_mhr, 120, .inl lf11)), (mtn, .inl (k_mtn, 96, .inl lf6)), (mtz, .inl (k_mtz, 4, .inl lf5))]) X Z20 5 4 rfl rfl (zz_in 0 5 rfl) dX7_lay_129 (fun _ => rfl) (fun f16 ef17 H21 locs22 Z23 => ?_)
          clear Z20
          refine lv_iload_n hx hb dX7_lay_130 rfl (lv_at hl14 4 rfl) ?_
          refine lv_iconst (v := 2) hx hb dX7_lay_131 (by decide) ?_
          refine lv_icmp_ne (tgt := 187) hx hb dX7_lay_132 (by decide) (fun _ => ?_) (fun h => absurd h (by decide))
          refine lv_iload hx hb dX7_lay_187 (lv_at hl14 0 rfl) ?_
          exact zz_iret X hr hlk Z23 () (by simp [sp_lay]) [] [] (by decide +kernel) rfl rfl dX7_lay_189
        · have e11 : slot = 1 := e11
          subst e11
          refine zz_v (v := 1) (by decide) ?_
          refine lv_if_eq (tgt := 53) hx hb dX7_lay_45 (by decide) (fun h => absurd h (by decide)) (fun _ => ?_)
          refine lv_iload hx hb dX7_lay_48 (lv_at hl8 0 rfl) ?_
          refine lv_if_ne (tgt := 56) hx hb dX7_lay_50 (by decide) (fun _ => ?_) (fun h => absurd h (by decide))
          refine lv_iload_n hx hb dX7_lay_56 rfl (lv_at hl8 3 rfl) ?_
          refine lv_iconst (v := 2) hx hb dX7_lay_57 (by decide) ?_
          refine lv_icmp_ne (tgt := 74) hx hb dX7_lay_58 (by decide) (fun _ => ?_) (fun h => absurd h (by decide))
          refine lv_aload_n hx hb dX7_lay_74 rfl (lv_at hl8 1 rfl) ?_
          refine zz_get X Z12 0 rfl rfl (fun w h => List.mem_cons_of_mem _ (List.mem_append_right _ h)) 7 rfl (zz_m 4 rfl) rfl dX7_lay_75 ?_
          refine lv_iload_n hx hb dX7_lay_78 rfl (lv_at hl8 2 rfl) ?_
          refine zz_ild X Z12 3 2 rfl rfl (zz_in 1 5 rfl) dX7_lay_79 ?_
          refine zz_v (v := 0) ahf_1 ?_
          refine lv_istore (lv' := [(5, .int 0), (4, .int 1), (0, .ref mo), (1, .int 1), (2, .int 0), (3, .int k)]) hx hb dX7_lay_80 hl8 (by decide) rfl (fun ls24 hl25 => ?_)
          clear hl8
          refine lv_aload_n hx hb dX7_lay_82 rfl (lv_at hl25 2 rfl) ?_
          refine zz_get X Z12 0 rfl rfl (fun w h => List.mem_cons_of_mem _ (List.mem_append_right _ h)) 7 rfl (zz_m 4 rfl) rfl dX7_lay_83 ?_
          refine lv_iload_n hx hb dX7_lay_86 rfl (lv_at hl25 3 rfl) ?_
          refine lv_iload_n hx hb dX7_lay_87 rfl (lv_at hl25 4 rfl) ?_
          refine zz_istN (WS' := fun f18 => [(mo, .inr (7, [.ref ms, .ref mi, .ref ma, .int 0, .ref mts, .ref mtz, .ref mtn, .ref mh, .ref mhn, .ref mhw, .ref mhz, .ref mhr, .ref mcl, .ref mtp, .int 0, .int 0, .int 0, .int 0, .int 0, .int 0, .int 0, .int 0, .int 0, .int 0, .int 0, .ref mna, .ref mpi, .ref mca, .ref mwa, .int 0, .ref mrd])), (ms, .inl (kms, 3047, .inl f)), (mts, .inl (k_mts, 4, .inl tsf)), (mh, .inl (k_mh, 5, .inl f18)), (mhn, .inl (k_mhn, 5, .inl lf8)), (mhw, .inl (k_mhw, 5, .inl lf9)), (mhz, .inl (k_mhz, 5, .inl lf10)), (mhr, .inl (k_mhr, 120, .inl lf11)), (mtn, .inl (k_mtn, 96, .inl lf6)), (mtz, .inl (k_mtz, 4, .inl lf5))]) X Z12 3 2 rfl rfl (zz_in 1 5 rfl) dX7_lay_88 (fun _ => rfl) (fun f18 ef19 H26 locs27 Z28 => ?_)
          clear Z12
          refine lv_aload_n hx hb dX7_lay_89 rfl (lv_at hl25 2 rfl) ?_
          refine zz_get X Z28 0 rfl rfl (fun w h => List.mem_cons_of_mem _ (List.mem_append_right _ h)) 8 rfl (zz_m 5 rfl) rfl dX7_lay_90 ?_
          refine lv_iload_n hx hb dX7_lay_93 rfl (lv_at hl25 3 rfl) ?_
          refine lv_iload_n hx hb dX7_lay_94 rfl (lv_at hl25 4 rfl) ?_
          refine lv_iconst (v := 1) hx hb dX7_lay_95 (by decide) ?_
          refine lv_icmp_ne (tgt := 108) hx hb dX7_lay_96 (by decide) (fun _ => ?_) (fun h => absurd h (by decide))
          refine lv_iload_n hx hb dX7_lay_108 rfl (lv_at hl25 5 rfl) ?_
          refine zz_istN (WS' := fun f20 => [(mo, .inr (7, [.ref ms, .ref mi, .ref ma, .int 0, .ref mts, .ref mtz, .ref mtn, .ref mh, .ref mhn, .ref mhw, .ref mhz, .ref mhr, .ref mcl, .ref mtp, .int 0, .int 0, .int 0, .int 0, .int 0, .int 0, .int 0, .int 0, .int 0, .int 0, .int 0, .ref mna, .ref mpi, .ref mca, .ref mwa, .int 0, .ref mrd])), (ms, .inl (kms, 3047, .inl f)), (mts, .inl (k_mts, 4, .inl tsf)), (mh, .inl (k_mh, 5, .inl f18)), (mhn, .inl (k_mhn, 5, .inl f20)), (mhw, .inl (k_mhw, 5, .inl lf9)), (mhz, .inl (k_mhz, 5, .inl lf10)), (mhr, .inl (k_mhr, 120, .inl lf11)), (mtn, .inl (k_mtn, 96, .inl lf6)), (mtz, .inl (k_mtz, 4, .inl lf5))]) X Z28 4 3 rfl rfl (zz_in 1 5 rfl) dX7_lay_109 (fun _ => rfl) (fun f20 ef21 H29 locs30 Z31 => ?_)
          clear Z28
          refine lv_aload_n hx hb dX7_lay_110 rfl (lv_at hl25 2 rfl) ?_
          refine zz_get X Z31 0 rfl rfl (fun w h => List.mem_cons_of_mem _ (List.mem_append_right _ h)) 9 rfl (zz_m 6 rfl) rfl dX7_lay_111 ?_
          refine lv_iload_n hx hb dX7_lay_114 rfl (lv_at hl25 3 rfl) ?_
          refine lv_iload_n hx hb dX7_lay_115 rfl (lv_at hl25 4 rfl) ?_
          refine lv_iconst (v := 1) hx hb dX7_lay_116 (by decide) ?_
          refine lv_icmp_ne (tgt := 128) hx hb dX7_lay_117 (by decide) (fun _ => ?_) (fun h => absurd h (by decide))
          refine lv_iconst (v := 0) hx hb dX7_lay_128 (by decide) ?_
          refine zz_istN (WS' := fun f22 => [(mo, .inr (7, [.ref ms, .ref mi, .ref ma, .int 0, .ref mts, .ref mtz, .ref mtn, .ref mh, .ref mhn, .ref mhw, .ref mhz, .ref mhr, .ref mcl, .ref mtp, .int 0, .int 0, .int 0, .int 0, .int 0, .int 0, .int 0, .int 0, .int 0, .int 0, .int 0, .ref mna, .ref mpi, .ref mca, .ref mwa, .int 0, .ref mrd])), (ms, .inl (kms, 3047, .inl f)), (mts, .inl (k_mts, 4, .inl tsf)), (mh, .inl (k_mh, 5, .inl f18)), (mhn, .inl (k_mhn, 5, .inl f20)), (mhw, .inl (k_mhw, 5, .inl f22)), (mhz, .inl (k_mhz, 5, .inl lf10)), (mhr, .inl (k_mhr, 120, .inl lf11)), (mtn, .inl (k_mtn, 96, .inl lf6)), (mtz, .inl (k_mtz, 4, .inl lf5))]) X Z31 5 4 rfl rfl (zz_in 1 5 rfl) dX7_lay_129 (fun _ => rfl) (fun f22 ef23 H32 locs33 Z34 => ?_)
          clear Z31
          refine lv_iload_n hx hb dX7_lay_130 rfl (lv_at hl25 4 rfl) ?_
          refine lv_iconst (v := 2) hx hb dX7_lay_131 (by decide) ?_
          refine lv_icmp_ne (tgt := 187) hx hb dX7_lay_132 (by decide) (fun _ => ?_) (fun h => absurd h (by decide))
          refine lv_iload hx hb dX7_lay_187 (lv_at hl25 0 rfl) ?_
          exact zz_iret X hr hlk Z34 () (by simp [sp_lay]) [] [] (by decide +kernel) rfl rfl dX7_lay_189
        · have e11 : slot = 2 := e11
          subst e11
          refine zz_v (v := 1) (by decide) ?_
          refine lv_if_eq (tgt := 53) hx hb dX7_lay_45 (by decide) (fun h => absurd h (by decide)) (fun _ => ?_)
          refine lv_iload hx hb dX7_lay_48 (lv_at hl8 0 rfl) ?_
          refine lv_if_ne (tgt := 56) hx hb dX7_lay_50 (by decide) (fun _ => ?_) (fun h => absurd h (by decide))
          refine lv_iload_n hx hb dX7_lay_56 rfl (lv_at hl8 3 rfl) ?_
          refine lv_iconst (v := 2) hx hb dX7_lay_57 (by decide) ?_
          refine lv_icmp_ne (tgt := 74) hx hb dX7_lay_58 (by decide) (fun _ => ?_) (fun h => absurd h (by decide))
          refine lv_aload_n hx hb dX7_lay_74 rfl (lv_at hl8 1 rfl) ?_
          refine zz_get X Z12 0 rfl rfl (fun w h => List.mem_cons_of_mem _ (List.mem_append_right _ h)) 7 rfl (zz_m 4 rfl) rfl dX7_lay_75 ?_
          refine lv_iload_n hx hb dX7_lay_78 rfl (lv_at hl8 2 rfl) ?_
          refine zz_ild X Z12 3 2 rfl rfl (zz_in 2 5 rfl) dX7_lay_79 ?_
          refine zz_v (v := 0) ahf_2 ?_
          refine lv_istore (lv' := [(5, .int 0), (4, .int 1), (0, .ref mo), (1, .int 2), (2, .int 0), (3, .int k)]) hx hb dX7_lay_80 hl8 (by decide) rfl (fun ls35 hl36 => ?_)
          clear hl8
          refine lv_aload_n hx hb dX7_lay_82 rfl (lv_at hl36 2 rfl) ?_
          refine zz_get X Z12 0 rfl rfl (fun w h => List.mem_cons_of_mem _ (List.mem_append_right _ h)) 7 rfl (zz_m 4 rfl) rfl dX7_lay_83 ?_
          refine lv_iload_n hx hb dX7_lay_86 rfl (lv_at hl36 3 rfl) ?_
          refine lv_iload_n hx hb dX7_lay_87 rfl (lv_at hl36 4 rfl) ?_
          refine zz_istN (WS' := fun f24 => [(mo, .inr (7, [.ref ms, .ref mi, .ref ma, .int 0, .ref mts, .ref mtz, .ref mtn, .ref mh, .ref mhn, .ref mhw, .ref mhz, .ref mhr, .ref mcl, .ref mtp, .int 0, .int 0, .int 0, .int 0, .int 0, .int 0, .int 0, .int 0, .int 0, .int 0, .int 0, .ref mna, .ref mpi, .ref mca, .ref mwa, .int 0, .ref mrd])), (ms, .inl (kms, 3047, .inl f)), (mts, .inl (k_mts, 4, .inl tsf)), (mh, .inl (k_mh, 5, .inl f24)), (mhn, .inl (k_mhn, 5, .inl lf8)), (mhw, .inl (k_mhw, 5, .inl lf9)), (mhz, .inl (k_mhz, 5, .inl lf10)), (mhr, .inl (k_mhr, 120, .inl lf11)), (mtn, .inl (k_mtn, 96, .inl lf6)), (mtz, .inl (k_mtz, 4, .inl lf5))]) X Z12 3 2 rfl rfl (zz_in 2 5 rfl) dX7_lay_88 (fun _ => rfl) (fun f24 ef25 H37 locs38 Z39 => ?_)
          clear Z12
          refine lv_aload_n hx hb dX7_lay_89 rfl (lv_at hl36 2 rfl) ?_
          refine zz_get X Z39 0 rfl rfl (fun w h => List.mem_cons_of_mem _ (List.mem_append_right _ h)) 8 rfl (zz_m 5 rfl) rfl dX7_lay_90 ?_
          refine lv_iload_n hx hb dX7_lay_93 rfl (lv_at hl36 3 rfl) ?_
          refine lv_iload_n hx hb dX7_lay_94 rfl (lv_at hl36 4 rfl) ?_
          refine lv_iconst (v := 1) hx hb dX7_lay_95 (by decide) ?_
          refine lv_icmp_ne (tgt := 108) hx hb dX7_lay_96 (by decide) (fun _ => ?_) (fun h => absurd h (by decide))
          refine lv_iload_n hx hb dX7_lay_108 rfl (lv_at hl36 5 rfl) ?_
          refine zz_istN (WS' := fun f26 => [(mo, .inr (7, [.ref ms, .ref mi, .ref ma, .int 0, .ref mts, .ref mtz, .ref mtn, .ref mh, .ref mhn, .ref mhw, .ref mhz, .ref mhr, .ref mcl, .ref mtp, .int 0, .int 0, .int 0, .int 0, .int 0, .int 0, .int 0, .int 0, .int 0, .int 0, .int 0, .ref mna, .ref mpi, .ref mca, .ref mwa, .int 0, .ref mrd])), (ms, .inl (kms, 3047, .inl f)), (mts, .inl (k_mts, 4, .inl tsf)), (mh, .inl (k_mh, 5, .inl f24)), (mhn, .inl (k_mhn, 5, .inl f26)), (mhw, .inl (k_mhw, 5, .inl lf9)), (mhz, .inl (k_mhz, 5, .inl lf10)), (mhr, .inl (k_mhr, 120, .inl lf11)), (mtn, .inl (k_mtn, 96, .inl lf6)), (mtz, .inl (k_mtz, 4, .inl lf5))]) X Z39 4 3 rfl rfl (zz_in 2 5 rfl) dX7_lay_109 (fun _ => rfl) (fun f26 ef27 H40 locs41 Z42 => ?_)
          clear Z39
          refine lv_aload_n hx hb dX7_lay_110 rfl (lv_at hl36 2 rfl) ?_
          refine zz_get X Z42 0 rfl rfl (fun w h => List.mem_cons_of_mem _ (List.mem_append_right _ h)) 9 rfl (zz_m 6 rfl) rfl dX7_lay_111 ?_
          refine lv_iload_n hx hb dX7_lay_114 rfl (lv_at hl36 3 rfl) ?_
          refine lv_iload_n hx hb dX7_lay_115 rfl (lv_at hl36 4 rfl) ?_
          refine lv_iconst (v := 1) hx hb dX7_lay_116 (by decide) ?_
          refine lv_icmp_ne (tgt := 128) hx hb dX7_lay_117 (by decide) (fun _ => ?_) (fun h => absurd h (by decide))
          refine lv_iconst (v := 0) hx hb dX7_lay_128 (by decide) ?_
          refine zz_istN (WS' := fun f28 => [(mo, .inr (7, [.ref ms, .ref mi, .ref ma, .int 0, .ref mts, .ref mtz, .ref mtn, .ref mh, .ref mhn, .ref mhw, .ref mhz, .ref mhr, .ref mcl, .ref mtp, .int 0, .int 0, .int 0, .int 0, .int 0, .int 0, .int 0, .int 0, .int 0, .int 0, .int 0, .ref mna, .ref mpi, .ref mca, .ref mwa, .int 0, .ref mrd])), (ms, .inl (kms, 3047, .inl f)), (mts, .inl (k_mts, 4, .inl tsf)), (mh, .inl (k_mh, 5, .inl f24)), (mhn, .inl (k_mhn, 5, .inl f26)), (mhw, .inl (k_mhw, 5, .inl f28)), (mhz, .inl (k_mhz, 5, .inl lf10)), (mhr, .inl (k_mhr, 120, .inl lf11)), (mtn, .inl (k_mtn, 96, .inl lf6)), (mtz, .inl (k_mtz, 4, .inl lf5))]) X Z42 5 4 rfl rfl (zz_in 2 5 rfl) dX7_lay_129 (fun _ => rfl) (fun f28 ef29 H43 locs44 Z45 => ?_)
          clear Z42
          refine lv_iload_n hx hb dX7_lay_130 rfl (lv_at hl36 4 rfl) ?_
          refine lv_iconst (v := 2) hx hb dX7_lay_131 (by decide) ?_
          refine lv_icmp_ne (tgt := 187) hx hb dX7_lay_132 (by decide) (fun _ => ?_) (fun h => absurd h (by decide))
          refine lv_iload hx hb dX7_lay_187 (lv_at hl36 0 rfl) ?_
          exact zz_iret X hr hlk Z45 () (by simp [sp_lay]) [] [] (by decide +kernel) rfl rfl dX7_lay_189
        · have e11 : slot = 3 := e11
          subst e11
          refine zz_v (v := 1) (by decide) ?_
          refine lv_if_eq (tgt := 53) hx hb dX7_lay_45 (by decide) (fun h => absurd h (by decide)) (fun _ => ?_)
          refine lv_iload hx hb dX7_lay_48 (lv_at hl8 0 rfl) ?_
          refine lv_if_ne (tgt := 56) hx hb dX7_lay_50 (by decide) (fun _ => ?_) (fun h => absurd h (by decide))
          refine lv_iload_n hx hb dX7_lay_56 rfl (lv_at hl8 3 rfl) ?_
          refine lv_iconst (v := 2) hx hb dX7_lay_57 (by decide) ?_
          refine lv_icmp_ne (tgt := 74) hx hb dX7_lay_58 (by decide) (fun _ => ?_) (fun h => absurd h (by decide))
          refine lv_aload_n hx hb dX7_lay_74 rfl (lv_at hl8 1 rfl) ?_
          refine zz_get X Z12 0 rfl rfl (fun w h => List.mem_cons_of_mem _ (List.mem_append_right _ h)) 7 rfl (zz_m 4 rfl) rfl dX7_lay_75 ?_
          refine lv_iload_n hx hb dX7_lay_78 rfl (lv_at hl8 2 rfl) ?_
          refine zz_ild X Z12 3 2 rfl rfl (zz_in 3 5 rfl) dX7_lay_79 ?_
          refine zz_v (v := 0) ahf_3 ?_
          refine lv_istore (lv' := [(5, .int 0), (4, .int 1), (0, .ref mo), (1, .int 3), (2, .int 0), (3, .int k)]) hx hb dX7_lay_80 hl8 (by decide) rfl (fun ls46 hl47 => ?_)
          clear hl8
          refine lv_aload_n hx hb dX7_lay_82 rfl (lv_at hl47 2 rfl) ?_
          refine zz_get X Z12 0 rfl rfl (fun w h => List.mem_cons_of_mem _ (List.mem_append_right _ h)) 7 rfl (zz_m 4 rfl) rfl dX7_lay_83 ?_
          refine lv_iload_n hx hb dX7_lay_86 rfl (lv_at hl47 3 rfl) ?_
          refine lv_iload_n hx hb dX7_lay_87 rfl (lv_at hl47 4 rfl) ?_
          refine zz_istN (WS' := fun f30 => [(mo, .inr (7, [.ref ms, .ref mi, .ref ma, .int 0, .ref mts, .ref mtz, .ref mtn, .ref mh, .ref mhn, .ref mhw, .ref mhz, .ref mhr, .ref mcl, .ref mtp, .int 0, .int 0, .int 0, .int 0, .int 0, .int 0, .int 0, .int 0, .int 0, .int 0, .int 0, .ref mna, .ref mpi, .ref mca, .ref mwa, .int 0, .ref mrd])), (ms, .inl (kms, 3047, .inl f)), (mts, .inl (k_mts, 4, .inl tsf)), (mh, .inl (k_mh, 5, .inl f30)), (mhn, .inl (k_mhn, 5, .inl lf8)), (mhw, .inl (k_mhw, 5, .inl lf9)), (mhz, .inl (k_mhz, 5, .inl lf10)), (mhr, .inl (k_mhr, 120, .inl lf11)), (mtn, .inl (k_mtn, 96, .inl lf6)), (mtz, .inl (k_mtz, 4, .inl lf5))]) X Z12 3 2 rfl rfl (zz_in 3 5 rfl) dX7_lay_88 (fun _ => rfl) (fun f30 ef31 H48 locs49 Z50 => ?_)
          clear Z12
          refine lv_aload_n hx hb dX7_lay_89 rfl (lv_at hl47 2 rfl) ?_
          refine zz_get X Z50 0 rfl rfl (fun w h => List.mem_cons_of_mem _ (List.mem_append_right _ h)) 8 rfl (zz_m 5 rfl) rfl dX7_lay_90 ?_
          refine lv_iload_n hx hb dX7_lay_93 rfl (lv_at hl47 3 rfl) ?_
          refine lv_iload_n hx hb dX7_lay_94 rfl (lv_at hl47 4 rfl) ?_
          refine lv_iconst (v := 1) hx hb dX7_lay_95 (by decide) ?_
          refine lv_icmp_ne (tgt := 108) hx hb dX7_lay_96 (by decide) (fun _ => ?_) (fun h => absurd h (by decide))
          refine lv_iload_n hx hb dX7_lay_108 rfl (lv_at hl47 5 rfl) ?_
          refine zz_istN (WS' := fun f32 => [(mo, .inr (7, [.ref ms, .ref mi, .ref ma, .int 0, .ref mts, .ref mtz, .ref mtn, .ref mh, .ref mhn, .ref mhw, .ref mhz, .ref mhr, .ref mcl, .ref mtp, .int 0, .int 0, .int 0, .int 0, .int 0, .int 0, .int 0, .int 0, .int 0, .int 0, .int 0, .ref mna, .ref mpi, .ref mca, .ref mwa, .int 0, .ref mrd])), (ms, .inl (kms, 3047, .inl f)), (mts, .inl (k_mts, 4, .inl tsf)), (mh, .inl (k_mh, 5, .inl f30)), (mhn, .inl (k_mhn, 5, .inl f32)), (mhw, .inl (k_mhw, 5, .inl lf9)), (mhz, .inl (k_mhz, 5, .inl lf10)), (mhr, .inl (k_mhr, 120, .inl lf11)), (mtn, .inl (k_mtn, 96, .inl lf6)), (mtz, .inl (k_mtz, 4, .inl lf5))]) X Z50 4 3 rfl rfl (zz_in 3 5 rfl) dX7_lay_109 (fun _ => rfl) (fun f32 ef33 H51 locs52 Z53 => ?_)
          clear Z50
          refine lv_aload_n hx hb dX7_lay_110 rfl (lv_at hl47 2 rfl) ?_
          refine zz_get X Z53 0 rfl rfl (fun w h => List.mem_cons_of_mem _ (List.mem_append_right _ h)) 9 rfl (zz_m 6 rfl) rfl dX7_lay_111 ?_
          refine lv_iload_n hx hb dX7_lay_114 rfl (lv_at hl47 3 rfl) ?_
          refine lv_iload_n hx hb dX7_lay_115 rfl (lv_at hl47 4 rfl) ?_
          refine lv_iconst (v := 1) hx hb dX7_lay_116 (by decide) ?_
          refine lv_icmp_ne (tgt := 128) hx hb dX7_lay_117 (by decide) (fun _ => ?_) (fun h => absurd h (by decide))
          refine lv_iconst (v := 0) hx hb dX7_lay_128 (by decide) ?_
          refine zz_istN (WS' := fun f34 => [(mo, .inr (7, [.ref ms, .ref mi, .ref ma, .int 0, .ref mts, .ref mtz, .ref mtn, .ref mh, .ref mhn, .ref mhw, .ref mhz, .ref mhr, .ref mcl, .ref mtp, .int 0, .int 0, .int 0, .int 0, .int 0, .int 0, .int 0, .int 0, .int 0, .int 0, .int 0, .ref mna, .ref mpi, .ref mca, .ref mwa, .int 0, .ref mrd])), (ms, .inl (kms, 3047, .inl f)), (mts, .inl (k_mts, 4, .inl tsf)), (mh, .inl (k_mh, 5, .inl f30)), (mhn, .inl (k_mhn, 5, .inl f32)), (mhw, .inl (k_mhw, 5, .inl f34)), (mhz, .inl (k_mhz, 5, .inl lf10)), (mhr, .inl (k_mhr, 120, .inl lf11)), (mtn, .inl (k_mtn, 96, .inl lf6)), (mtz, .inl (k_mtz, 4, .inl lf5))]) X Z53 5 4 rfl rfl (zz_in 3 5 rfl) dX7_lay_129 (fun _ => rfl) (fun f34 ef35 H54 locs55 Z56 => ?_)
          clear Z53
          refine lv_iload_n hx hb dX7_lay_130 rfl (lv_at hl47 4 rfl) ?_
          refine lv_iconst (v := 2) hx hb dX7_lay_131 (by decide) ?_
          refine lv_icmp_ne (tgt := 187) hx hb dX7_lay_132 (by decide) (fun _ => ?_) (fun h => absurd h (by decide))
          refine lv_iload hx hb dX7_lay_187 (lv_at hl47 0 rfl) ?_
          exact zz_iret X hr hlk Z56 () (by simp [sp_lay]) [] [] (by decide +kernel) rfl rfl dX7_lay_189
        · have e11 : slot = 4 := e11
          subst e11
          refine zz_v (v := 1) (by decide) ?_
          refine lv_if_eq (tgt := 53) hx hb dX7_lay_45 (by decide) (fun h => absurd h (by decide)) (fun _ => ?_)
          refine lv_iload hx hb dX7_lay_48 (lv_at hl8 0 rfl) ?_
          refine lv_if_ne (tgt := 56) hx hb dX7_lay_50 (by decide) (fun _ => ?_) (fun h => absurd h (by decide))
          refine lv_iload_n hx hb dX7_lay_56 rfl (lv_at hl8 3 rfl) ?_
          refine lv_iconst (v := 2) hx hb dX7_lay_57 (by decide) ?_
          refine lv_icmp_ne (tgt := 74) hx hb dX7_lay_58 (by decide) (fun _ => ?_) (fun h => absurd h (by decide))
          refine lv_aload_n hx hb dX7_lay_74 rfl (lv_at hl8 1 rfl) ?_
          refine zz_get X Z12 0 rfl rfl (fun w h => List.mem_cons_of_mem _ (List.mem_append_right _ h)) 7 rfl (zz_m 4 rfl) rfl dX7_lay_75 ?_
          refine lv_iload_n hx hb dX7_lay_78 rfl (lv_at hl8 2 rfl) ?_
          refine zz_ild X Z12 3 2 rfl rfl (zz_in 4 5 rfl) dX7_lay_79 ?_
          refine zz_v (v := 0) ahf_4 ?_
          refine lv_istore (lv' := [(5, .int 0), (4, .int 1), (0, .ref mo), (1, .int 4), (2, .int 0), (3, .int k)]) hx hb dX7_lay_80 hl8 (by decide) rfl (fun ls57 hl58 => ?_)
          clear hl8
          refine lv_aload_n hx hb dX7_lay_82 rfl (lv_at hl58 2 rfl) ?_
          refine zz_get X Z12 0 rfl rfl (fun w h => List.mem_cons_of_mem _ (List.mem_append_right _ h)) 7 rfl (zz_m 4 rfl) rfl dX7_lay_83 ?_
          refine lv_iload_n hx hb dX7_lay_86 rfl (lv_at hl58 3 rfl) ?_
          refine lv_iload_n hx hb dX7_lay_87 rfl (lv_at hl58 4 rfl) ?_
          refine zz_istN (WS' := fun f36 => [(mo, .inr (7, [.ref ms, .ref mi, .ref ma, .int 0, .ref mts, .ref mtz, .ref mtn, .ref mh, .ref mhn, .ref mhw, .ref mhz, .ref mhr, .ref mcl, .ref mtp, .int 0, .int 0, .int 0, .int 0, .int 0, .int 0, .int 0, .int 0, .int 0, .int 0, .int 0, .ref mna, .ref mpi, .ref mca, .ref mwa, .int 0, .ref mrd])), (ms, .inl (kms, 3047, .inl f)), (mts, .inl (k_mts, 4, .inl tsf)), (mh, .inl (k_mh, 5, .inl f36)), (mhn, .inl (k_mhn, 5, .inl lf8)), (mhw, .inl (k_mhw, 5, .inl lf9)), (mhz, .inl (k_mhz, 5, .inl lf10)), (mhr, .inl (k_mhr, 120, .inl lf11)), (mtn, .inl (k_mtn, 96, .inl lf6)), (mtz, .inl (k_mtz, 4, .inl lf5))]) X Z12 3 2 rfl rfl (zz_in 4 5 rfl) dX7_lay_88 (fun _ => rfl) (fun f36 ef37 H59 locs60 Z61 => ?_)
          clear Z12
          refine lv_aload_n hx hb dX7_lay_89 rfl (lv_at hl58 2 rfl) ?_
          refine zz_get X Z61 0 rfl rfl (fun w h => List.mem_cons_of_mem _ (List.mem_append_right _ h)) 8 rfl (zz_m 5 rfl) rfl dX7_lay_90 ?_
          refine lv_iload_n hx hb dX7_lay_93 rfl (lv_at hl58 3 rfl) ?_
          refine lv_iload_n hx hb dX7_lay_94 rfl (lv_at hl58 4 rfl) ?_
          refine lv_iconst (v := 1) hx hb dX7_lay_95 (by decide) ?_
          refine lv_icmp_ne (tgt := 108) hx hb dX7_lay_96 (by decide) (fun _ => ?_) (fun h => absurd h (by decide))
          refine lv_iload_n hx hb dX7_lay_108 rfl (lv_at hl58 5 rfl) ?_
          refine zz_istN (WS' := fun f38 => [(mo, .inr (7, [.ref ms, .ref mi, .ref ma, .int 0, .ref mts, .ref mtz, .ref mtn, .ref mh, .ref mhn, .ref mhw, .ref mhz, .ref mhr, .ref mcl, .ref mtp, .int 0, .int 0, .int 0, .int 0, .int 0, .int 0, .int 0, .int 0, .int 0, .int 0, .int 0, .ref mna, .ref mpi, .ref mca, .ref mwa, .int 0, .ref mrd])), (ms, .inl (kms, 3047, .inl f)), (mts, .inl (k_mts, 4, .inl tsf)), (mh, .inl (k_mh, 5, .inl f36)), (mhn, .inl (k_mhn, 5, .inl f38)), (mhw, .inl (k_mhw, 5, .inl lf9)), (mhz, .inl (k_mhz, 5, .inl lf10)), (mhr, .inl (k_mhr, 120, .inl lf11)), (mtn, .inl (k_mtn, 96, .inl lf6)), (mtz, .inl (k_mtz, 4, .inl lf5))]) X Z61 4 3 rfl rfl (zz_in 4 5 rfl) dX7_lay_109 (fun _ => rfl) (fun f38 ef39 H62 locs63 Z64 => ?_)
          clear Z61
          refine lv_aload_n hx hb dX7_lay_110 rfl (lv_at hl58 2 rfl) ?_
          refine zz_get X Z64 0 rfl rfl (fun w h => List.mem_cons_of_mem _ (List.mem_append_right _ h)) 9 rfl (zz_m 6 rfl) rfl dX7_lay_111 ?_
          refine lv_iload_n hx hb dX7_lay_114 rfl (lv_at hl58 3 rfl) ?_
          refine lv_iload_n hx hb dX7_lay_115 rfl (lv_at hl58 4 rfl) ?_
          refine lv_iconst (v := 1) hx hb dX7_lay_116 (by decide) ?_
          refine lv_icmp_ne (tgt := 128) hx hb dX7_lay_117 (by decide) (fun _ => ?_) (fun h => absurd h (by decide))
          refine lv_iconst (v := 0) hx hb dX7_lay_128 (by decide) ?_
          refine zz_istN (WS' := fun f40 => [(mo, .inr (7, [.ref ms, .ref mi, .ref ma, .int 0, .ref mts, .ref mtz, .ref mtn, .ref mh, .ref mhn, .ref mhw, .ref mhz, .ref mhr, .ref mcl, .ref mtp, .int 0, .int 0, .int 0, .int 0, .int 0, .int 0, .int 0, .int 0, .int 0, .int 0, .int 0, .ref mna, .ref mpi, .ref mca, .ref mwa, .int 0, .ref mrd])), (ms, .inl (kms, 3047, .inl f)), (mts, .inl (k_mts, 4, .inl tsf)), (mh, .inl (k_mh, 5, .inl f36)), (mhn, .inl (k_mhn, 5, .inl f38)), (mhw, .inl (k_mhw, 5, .inl f40)), (mhz, .inl (k_mhz, 5, .inl lf10)), (mhr, .inl (k_mhr, 120, .inl lf11)), (mtn, .inl (k_mtn, 96, .inl lf6)), (mtz, .inl (k_mtz, 4, .inl lf5))]) X Z64 5 4 rfl rfl (zz_in 4 5 rfl) dX7_lay_129 (fun _ => rfl) (fun f40 ef41 H65 locs66 Z67 => ?_)
          clear Z64
          refine lv_iload_n hx hb dX7_lay_130 rfl (lv_at hl58 4 rfl) ?_
          refine lv_iconst (v := 2) hx hb dX7_lay_131 (by decide) ?_
          refine lv_icmp_ne (tgt := 187) hx hb dX7_lay_132 (by decide) (fun _ => ?_) (fun h => absurd h (by decide))
          refine lv_iload hx hb dX7_lay_187 (lv_at hl58 0 rfl) ?_
          exact zz_iret X hr hlk Z67 () (by simp [sp_lay]) [] [] (by decide +kernel) rfl rfl dX7_lay_189
      · refine zz_v (v := 0) (zz_wiF w10) ?_
        refine lv_if_eq (tgt := 53) hx hb dX7_lay_45 (by decide) (fun _ => ?_) (fun h => absurd (by decide) h)
        refine lv_ldc (v := (-1000000001)) hx hb hown (hts _ (zz_m 1 rfl)) dX7_lay_53 ?_
        exact zz_iret X hr hlk Z12 () (by simp [sp_lay, w10]) [] [] (by decide +kernel) rfl rfl dX7_lay_55
    · have s1 : thing = 1 := s1
      subst s1
      refine lv_iload_n hx hb dX7_lay_0 rfl (lv_at hl 2 rfl) ?_
      refine lv_if_eq (tgt := 34) hx hb dX7_lay_1 (by decide) (fun h => absurd h (by decide)) (fun _ => ?_)
      refine lv_iload_n hx hb dX7_lay_4 rfl (lv_at hl 2 rfl) ?_
      refine lv_iconst (v := 3) hx hb dX7_lay_5 (by decide) ?_
      refine lv_icmp_eq (tgt := 34) hx hb dX7_lay_6 (by decide) (fun h => absurd h (by decide)) (fun _ => ?_)
      refine lv_iload_n hx hb dX7_lay_9 rfl (lv_at hl 2 rfl) ?_
      refine lv_iconst (v := 1) hx hb dX7_lay_10 (by decide) ?_
      refine lv_icmp_ne (tgt := 22) hx hb dX7_lay_11 (by decide) (fun h => absurd (by decide) h) (fun _ => ?_)
      refine lv_aload_n hx hb dX7_lay_14 rfl (lv_at hl 0 rfl) ?_
      refine lv_iload_n hx hb dX7_lay_15 rfl (lv_at hl 3 rfl) ?_
      refine zz_ci (WC := [(mo, .inr (7, [.ref ms, .ref mi, .ref ma, .int 0, .ref mts, .ref mtz, .ref mtn, .ref mh, .ref mhn, .ref mhw, .ref mhz, .ref mhr, .ref mcl, .ref mtp, .int 0, .int 0, .int 0, .int 0, .int 0, .int 0, .int 0, .int 0, .int 0, .int 0, .int 0, .ref mna, .ref mpi, .ref mca, .ref mwa, .int 0, .ref mrd])), (ms, .inl (kms, 3047, .inl f))]) (TC := [(kms, .int)]) (WR := [(mts, .inl (k_mts, 4, .inl tsf)), (mh, .inl (k_mh, 5, .inl hf)), (mhn, .inl (k_mhn, 5, .inl lf8)), (mhw, .inl (k_mhw, 5, .inl lf9)), (mhz, .inl (k_mhz, 5, .inl lf10)), (mhr, .inl (k_mhr, 120, .inl lf11)), (mtn, .inl (k_mtn, 96, .inl lf6)), (mtz, .inl (k_mtz, 4, .inl lf5))]) (TR := [(k_mts, .int), (k_mh, .int), (k_mhn, .int), (k_mhw, .int), (k_mhz, .int), (k_mhr, .int), (k_mtn, .int), (k_mtz, .int)]) (k := 0) (n := 0) Z [0, 1] [2, 3, 4, 5, 6, 7, 8, 9] [0] [1, 2, 3, 4, 5, 6, 7, 8] rfl rfl (by decide +kernel) (by decide +kernel) (by decide +kernel) rfl rfl (fun Zc => va_runV (As := [.int k]) (rest := []) X (c7_isStall l D mo ms mi ma mts mtz mtn mh mhn mhw mhz mhr mcl mtp mna mpi mca mwa mrd 0 0 0 0 0 0 0 0 0 0 0 0 0 kms f k af_0 s.heap.size) (cwV 1 hts gX7_lay_X7_isStall rfl rfl rfl ⟨rfl, zh_X7_isStall⟩ ⟨Nat.le_of_ble_eq_true rfl, Nat.le_of_ble_eq_true rfl⟩) (zz_pV (ci := 7) Zc 0 rfl rfl) rfl rfl hl.1 rfl (lv_room (Nat.le_of_ble_eq_true rfl)) dX7_lay_16 ⟨Nat.le_of_ble_eq_true rfl, Nat.le_of_ble_eq_true rfl⟩) rfl rfl (fun r44 u42 H68 locs69 hw43 Z70 => ?_)
      clear Z
      have hw43 : r44 = 0 := hw43.trans (by decide)
      subst r44
      have Z71 : zz_S D A s [(mts, .inl (k_mts, 4, .inl tsf)), (mh, .inl (k_mh, 5, .inl hf)), (mhn, .inl (k_mhn, 5, .inl lf8)), (mhw, .inl (k_mhw, 5, .inl lf9)), (mhz, .inl (k_mhz, 5, .inl lf10)), (mhr, .inl (k_mhr, 120, .inl lf11)), (mtn, .inl (k_mtn, 96, .inl lf6)), (mtz, .inl (k_mtz, 4, .inl lf5)), (mo, .inr (7, [.ref ms, .ref mi, .ref ma, .int 0, .ref mts, .ref mtz, .ref mtn, .ref mh, .ref mhn, .ref mhw, .ref mhz, .ref mhr, .ref mcl, .ref mtp, .int 0, .int 0, .int 0, .int 0, .int 0, .int 0, .int 0, .int 0, .int 0, .int 0, .int 0, .ref mna, .ref mpi, .ref mca, .ref mwa, .int 0, .ref mrd])), (ms, .inl (kms, 3047, .inl f))] [(k_mts, .int), (k_mh, .int), (k_mhn, .int), (k_mhw, .int), (k_mhz, .int), (k_mhr, .int), (k_mtn, .int), (k_mtz, .int), (kms, .int)] H68 locs69 := Z70
      clear Z70
      refine lv_if_ne (tgt := 34) hx hb dX7_lay_19 (by decide) (fun h => absurd (by decide) h) (fun _ => ?_)
      refine lv_iload_n hx hb dX7_lay_22 rfl (lv_at hl 2 rfl) ?_
      refine lv_iconst (v := 2) hx hb dX7_lay_23 (by decide) ?_
      refine lv_icmp_ne (tgt := 38) hx hb dX7_lay_24 (by decide) (fun _ => ?_) (fun h => absurd h (by decide))
      refine lv_iconst (v := 0) hx hb dX7_lay_38 (by decide) ?_
      refine lv_istore (lv' := [(4, .int 0), (0, .ref mo), (1, .int slot), (2, .int 1), (3, .int k)]) hx hb dX7_lay_39 hl (by decide) rfl (fun ls72 hl73 => ?_)
      clear hl
      refine lv_iload_n hx hb dX7_lay_41 rfl (lv_at hl73 2 rfl) ?_
      refine zz_ci (WC := []) (TC := []) (WR := [(mts, .inl (k_mts, 4, .inl tsf)), (mh, .inl (k_mh, 5, .inl hf)), (mhn, .inl (k_mhn, 5, .inl lf8)), (mhw, .inl (k_mhw, 5, .inl lf9)), (mhz, .inl (k_mhz, 5, .inl lf10)), (mhr, .inl (k_mhr, 120, .inl lf11)), (mtn, .inl (k_mtn, 96, .inl lf6)), (mtz, .inl (k_mtz, 4, .inl lf5)), (mo, .inr (7, [.ref ms, .ref mi, .ref ma, .int 0, .ref mts, .ref mtz, .ref mtn, .ref mh, .ref mhn, .ref mhw, .ref mhz, .ref mhr, .ref mcl, .ref mtp, .int 0, .int 0, .int 0, .int 0, .int 0, .int 0, .int 0, .int 0, .int 0, .int 0, .int 0, .ref mna, .ref mpi, .ref mca, .ref mwa, .int 0, .ref mrd])), (ms, .inl (kms, 3047, .inl f))]) (TR := [(k_mts, .int), (k_mh, .int), (k_mhn, .int), (k_mhw, .int), (k_mhz, .int), (k_mhr, .int), (k_mtn, .int), (k_mtz, .int), (kms, .int)]) (k := 0) (n := 0) Z71 [] [0, 1, 2, 3, 4, 5, 6, 7, 8, 9] [] [0, 1, 2, 3, 4, 5, 6, 7, 8] rfl rfl (by decide +kernel) (by decide +kernel) (by decide +kernel) rfl rfl (fun Zc => va_runS (As := [.int slot]) (rest := []) X (c7_isSlot l D slot H68.size) (va_cwS 1 hts gX7_lay_X7_isSlot rfl rfl rfl zh_X7_isSlot ⟨Nat.le_of_ble_eq_true rfl, Nat.le_of_ble_eq_true rfl⟩) (zz_pS Zc) rfl rfl hl73.1 rfl (lv_room (Nat.le_of_ble_eq_true rfl)) dX7_lay_42 ⟨Nat.le_of_ble_eq_true rfl, Nat.le_of_ble_eq_true rfl⟩) rfl rfl (fun r47 u45 H74 locs75 hw46 Z76 => ?_)
      clear Z71
      subst r47
      have Z77 : zz_S D A s [(mts, .inl (k_mts, 4, .inl tsf)), (mh, .inl (k_mh, 5, .inl hf)), (mhn, .inl (k_mhn, 5, .inl lf8)), (mhw, .inl (k_mhw, 5, .inl lf9)), (mhz, .inl (k_mhz, 5, .inl lf10)), (mhr, .inl (k_mhr, 120, .inl lf11)), (mtn, .inl (k_mtn, 96, .inl lf6)), (mtz, .inl (k_mtz, 4, .inl lf5)), (mo, .inr (7, [.ref ms, .ref mi, .ref ma, .int 0, .ref mts, .ref mtz, .ref mtn, .ref mh, .ref mhn, .ref mhw, .ref mhz, .ref mhr, .ref mcl, .ref mtp, .int 0, .int 0, .int 0, .int 0, .int 0, .int 0, .int 0, .int 0, .int 0, .int 0, .int 0, .ref mna, .ref mpi, .ref mca, .ref mwa, .int 0, .ref mrd])), (ms, .inl (kms, 3047, .inl f))] [(k_mts, .int), (k_mh, .int), (k_mhn, .int), (k_mhw, .int), (k_mhz, .int), (k_mhr, .int), (k_mtn, .int), (k_mtz, .int), (kms, .int)] H74 locs75 := Z76
      clear Z76
      by_cases w48 : 0 ≤ slot ∧ slot ≤ 4
      · obtain ⟨j, hj, e49⟩ := zz_rng 4 w48 (by decide)
        rcases (show j = 0 ∨ j = 1 ∨ j = 2 ∨ j = 3 ∨ j = 4 by omega) with rfl | rfl | rfl | rfl | rfl
        · have e49 : slot = 0 := e49
          subst e49
          refine zz_v (v := 1) (by decide) ?_
          refine lv_if_eq (tgt := 53) hx hb dX7_lay_45 (by decide) (fun h => absurd h (by decide)) (fun _ => ?_)
          refine lv_iload hx hb dX7_lay_48 (lv_at hl73 0 rfl) ?_
          refine lv_if_ne (tgt := 56) hx hb dX7_lay_50 (by decide) (fun h => absurd (by decide) h) (fun _ => ?_)
          refine lv_ldc (v := (-1000000001)) hx hb hown (hts _ (zz_m 1 rfl)) dX7_lay_53 ?_
          exact zz_iret X hr hlk Z77 () (by simp [sp_lay]) [] [] (by decide +kernel) rfl rfl dX7_lay_55
        · have e49 : slot = 1 := e49
          subst e49
          refine zz_v (v := 1) (by decide) ?_
          refine lv_if_eq (tgt := 53) hx hb dX7_lay_45 (by decide) (fun h => absurd h (by decide)) (fun _ => ?_)
          refine lv_iload hx hb dX7_lay_48 (lv_at hl73 0 rfl) ?_
          refine lv_if_ne (tgt := 56) hx hb dX7_lay_50 (by decide) (fun h => absurd (by decide) h) (fun _ => ?_)
          refine lv_ldc (v := (-1000000001)) hx hb hown (hts _ (zz_m 1 rfl)) dX7_lay_53 ?_
          exact zz_iret X hr hlk Z77 () (by simp [sp_lay]) [] [] (by decide +kernel) rfl rfl dX7_lay_55
        · have e49 : slot = 2 := e49
          subst e49
          refine zz_v (v := 1) (by decide) ?_
          refine lv_if_eq (tgt := 53) hx hb dX7_lay_45 (by decide) (fun h => absurd h (by decide)) (fun _ => ?_)
          refine lv_iload hx hb dX7_lay_48 (lv_at hl73 0 rfl) ?_
          refine lv_if_ne (tgt := 56) hx hb dX7_lay_50 (by decide) (fun h => absurd (by decide) h) (fun _ => ?_)
          refine lv_ldc (v := (-1000000001)) hx hb hown (hts _ (zz_m 1 rfl)) dX7_lay_53 ?_
          exact zz_iret X hr hlk Z77 () (by simp [sp_lay]) [] [] (by decide +kernel) rfl rfl dX7_lay_55
        · have e49 : slot = 3 := e49
          subst e49
          refine zz_v (v := 1) (by decide) ?_
          refine lv_if_eq (tgt := 53) hx hb dX7_lay_45 (by decide) (fun h => absurd h (by decide)) (fun _ => ?_)
          refine lv_iload hx hb dX7_lay_48 (lv_at hl73 0 rfl) ?_
          refine lv_if_ne (tgt := 56) hx hb dX7_lay_50 (by decide) (fun h => absurd (by decide) h) (fun _ => ?_)
          refine lv_ldc (v := (-1000000001)) hx hb hown (hts _ (zz_m 1 rfl)) dX7_lay_53 ?_
          exact zz_iret X hr hlk Z77 () (by simp [sp_lay]) [] [] (by decide +kernel) rfl rfl dX7_lay_55
        · have e49 : slot = 4 := e49
          subst e49
          refine zz_v (v := 1) (by decide) ?_
          refine lv_if_eq (tgt := 53) hx hb dX7_lay_45 (by decide) (fun h => absurd h (by decide)) (fun _ => ?_)
          refine lv_iload hx hb dX7_lay_48 (lv_at hl73 0 rfl) ?_
          refine lv_if_ne (tgt := 56) hx hb dX7_lay_50 (by decide) (fun h => absurd (by decide) h) (fun _ => ?_)
          refine lv_ldc (v := (-1000000001)) hx hb hown (hts _ (zz_m 1 rfl)) dX7_lay_53 ?_
          exact zz_iret X hr hlk Z77 () (by simp [sp_lay]) [] [] (by decide +kernel) rfl rfl dX7_lay_55
      · refine zz_v (v := 0) (zz_wiF w48) ?_
        refine lv_if_eq (tgt := 53) hx hb dX7_lay_45 (by decide) (fun _ => ?_) (fun h => absurd (by decide) h)
        refine lv_ldc (v := (-1000000001)) hx hb hown (hts _ (zz_m 1 rfl)) dX7_lay_53 ?_
        exact zz_iret X hr hlk Z77 () (by simp [sp_lay, w48]) [] [] (by decide +kernel) rfl rfl dX7_lay_55
    · have s1 : thing = 2 := s1
      subst s1
      refine lv_iload_n hx hb dX7_lay_0 rfl (lv_at hl 2 rfl) ?_
      refine lv_if_eq (tgt := 34) hx hb dX7_lay_1 (by decide) (fun h => absurd h (by decide)) (fun _ => ?_)
      refine lv_iload_n hx hb dX7_lay_4 rfl (lv_at hl 2 rfl) ?_
      refine lv_iconst (v := 3) hx hb dX7_lay_5 (by decide) ?_
      refine lv_icmp_eq (tgt := 34) hx hb dX7_lay_6 (by decide) (fun h => absurd h (by decide)) (fun _ => ?_)
      refine lv_iload_n hx hb dX7_lay_9 rfl (lv_at hl 2 rfl) ?_
      refine lv_iconst (v := 1) hx hb dX7_lay_10 (by decide) ?_
      refine lv_icmp_ne (tgt := 22) hx hb dX7_lay_11 (by decide) (fun _ => ?_) (fun h => absurd h (by decide))
      refine lv_iload_n hx hb dX7_lay_22 rfl (lv_at hl 2 rfl) ?_
      refine lv_iconst (v := 2) hx hb dX7_lay_23 (by decide) ?_
      refine lv_icmp_ne (tgt := 38) hx hb dX7_lay_24 (by decide) (fun h => absurd (by decide) h) (fun _ => ?_)
      refine lv_iload_n hx hb dX7_lay_27 rfl (lv_at hl 3 rfl) ?_
      refine zz_ci (WC := []) (TC := []) (WR := [(mo, .inr (7, [.ref ms, .ref mi, .ref ma, .int 0, .ref mts, .ref mtz, .ref mtn, .ref mh, .ref mhn, .ref mhw, .ref mhz, .ref mhr, .ref mcl, .ref mtp, .int 0, .int 0, .int 0, .int 0, .int 0, .int 0, .int 0, .int 0, .int 0, .int 0, .int 0, .ref mna, .ref mpi, .ref mca, .ref mwa, .int 0, .ref mrd])), (ms, .inl (kms, 3047, .inl f)), (mts, .inl (k_mts, 4, .inl tsf)), (mh, .inl (k_mh, 5, .inl hf)), (mhn, .inl (k_mhn, 5, .inl lf8)), (mhw, .inl (k_mhw, 5, .inl lf9)), (mhz, .inl (k_mhz, 5, .inl lf10)), (mhr, .inl (k_mhr, 120, .inl lf11)), (mtn, .inl (k_mtn, 96, .inl lf6)), (mtz, .inl (k_mtz, 4, .inl lf5))]) (TR := [(kms, .int), (k_mts, .int), (k_mh, .int), (k_mhn, .int), (k_mhw, .int), (k_mhz, .int), (k_mhr, .int), (k_mtn, .int), (k_mtz, .int)]) (k := 0) (n := 0) Z [] [0, 1, 2, 3, 4, 5, 6, 7, 8, 9] [] [0, 1, 2, 3, 4, 5, 6, 7, 8] rfl rfl (by decide +kernel) (by decide +kernel) (by decide +kernel) rfl rfl (fun Zc => va_runS (As := [.int k]) (rest := []) X (c7_isSheet l D k s.heap.size) (va_cwS 1 hts gX7_lay_X7_isSheet rfl rfl rfl zh_X7_isSheet ⟨Nat.le_of_ble_eq_true rfl, Nat.le_of_ble_eq_true rfl⟩) (zz_pS Zc) rfl rfl hl.1 rfl (lv_room (Nat.le_of_ble_eq_true rfl)) dX7_lay_28 ⟨Nat.le_of_ble_eq_true rfl, Nat.le_of_ble_eq_true rfl⟩) rfl rfl (fun r52 u50 H78 locs79 hw51 Z80 => ?_)
      clear Z
      subst r52
      have Z81 : zz_S D A s [(mo, .inr (7, [.ref ms, .ref mi, .ref ma, .int 0, .ref mts, .ref mtz, .ref mtn, .ref mh, .ref mhn, .ref mhw, .ref mhz, .ref mhr, .ref mcl, .ref mtp, .int 0, .int 0, .int 0, .int 0, .int 0, .int 0, .int 0, .int 0, .int 0, .int 0, .int 0, .ref mna, .ref mpi, .ref mca, .ref mwa, .int 0, .ref mrd])), (ms, .inl (kms, 3047, .inl f)), (mts, .inl (k_mts, 4, .inl tsf)), (mh, .inl (k_mh, 5, .inl hf)), (mhn, .inl (k_mhn, 5, .inl lf8)), (mhw, .inl (k_mhw, 5, .inl lf9)), (mhz, .inl (k_mhz, 5, .inl lf10)), (mhr, .inl (k_mhr, 120, .inl lf11)), (mtn, .inl (k_mtn, 96, .inl lf6)), (mtz, .inl (k_mtz, 4, .inl lf5))] [(kms, .int), (k_mts, .int), (k_mh, .int), (k_mhn, .int), (k_mhw, .int), (k_mhz, .int), (k_mhr, .int), (k_mtn, .int), (k_mtz, .int)] H78 locs79 := Z80
      clear Z80
      by_cases w53 : 0 ≤ k ∧ k ≤ 3
      · obtain ⟨j, hj, e54⟩ := zz_rng 3 w53 (by decide)
        rcases (show j = 0 ∨ j = 1 ∨ j = 2 ∨ j = 3 by omega) with rfl | rfl | rfl | rfl
        · have e54 : k = 0 := e54
          subst e54
          refine zz_v (v := 1) (by decide) ?_
          refine lv_if_eq (tgt := 38) hx hb dX7_lay_31 (by decide) (fun h => absurd h (by decide)) (fun _ => ?_)
          refine lv_iconst (v := 1) hx hb dX7_lay_34 (by decide) ?_
          refine lv_goto (tgt := 39) hx hb dX7_lay_35 (by decide) ?_
          refine lv_istore (lv' := [(4, .int 1), (0, .ref mo), (1, .int slot), (2, .int 2), (3, .int 0)]) hx hb dX7_lay_39 hl (by decide) rfl (fun ls82 hl83 => ?_)
          clear hl
          refine lv_iload_n hx hb dX7_lay_41 rfl (lv_at hl83 2 rfl) ?_
          refine zz_ci (WC := []) (TC := []) (WR := [(mo, .inr (7, [.ref ms, .ref mi, .ref ma, .int 0, .ref mts, .ref mtz, .ref mtn, .ref mh, .ref mhn, .ref mhw, .ref mhz, .ref mhr, .ref mcl, .ref mtp, .int 0, .int 0, .int 0, .int 0, .int 0, .int 0, .int 0, .int 0, .int 0, .int 0, .int 0, .ref mna, .ref mpi, .ref mca, .ref mwa, .int 0, .ref mrd])), (ms, .inl (kms, 3047, .inl f)), (mts, .inl (k_mts, 4, .inl tsf)), (mh, .inl (k_mh, 5, .inl hf)), (mhn, .inl (k_mhn, 5, .inl lf8)), (mhw, .inl (k_mhw, 5, .inl lf9)), (mhz, .inl (k_mhz, 5, .inl lf10)), (mhr, .inl (k_mhr, 120, .inl lf11)), (mtn, .inl (k_mtn, 96, .inl lf6)), (mtz, .inl (k_mtz, 4, .inl lf5))]) (TR := [(kms, .int), (k_mts, .int), (k_mh, .int), (k_mhn, .int), (k_mhw, .int), (k_mhz, .int), (k_mhr, .int), (k_mtn, .int), (k_mtz, .int)]) (k := 0) (n := 0) Z81 [] [0, 1, 2, 3, 4, 5, 6, 7, 8, 9] [] [0, 1, 2, 3, 4, 5, 6, 7, 8] rfl rfl (by decide +kernel) (by decide +kernel) (by decide +kernel) rfl rfl (fun Zc => va_runS (As := [.int slot]) (rest := []) X (c7_isSlot l D slot H78.size) (va_cwS 1 hts gX7_lay_X7_isSlot rfl rfl rfl zh_X7_isSlot ⟨Nat.le_of_ble_eq_true rfl, Nat.le_of_ble_eq_true rfl⟩) (zz_pS Zc) rfl rfl hl83.1 rfl (lv_room (Nat.le_of_ble_eq_true rfl)) dX7_lay_42 ⟨Nat.le_of_ble_eq_true rfl, Nat.le_of_ble_eq_true rfl⟩) rfl rfl (fun r57 u55 H84 locs85 hw56 Z86 => ?_)
          clear Z81
          subst r57
          have Z87 : zz_S D A s [(mo, .inr (7, [.ref ms, .ref mi, .ref ma, .int 0, .ref mts, .ref mtz, .ref mtn, .ref mh, .ref mhn, .ref mhw, .ref mhz, .ref mhr, .ref mcl, .ref mtp, .int 0, .int 0, .int 0, .int 0, .int 0, .int 0, .int 0, .int 0, .int 0, .int 0, .int 0, .ref mna, .ref mpi, .ref mca, .ref mwa, .int 0, .ref mrd])), (ms, .inl (kms, 3047, .inl f)), (mts, .inl (k_mts, 4, .inl tsf)), (mh, .inl (k_mh, 5, .inl hf)), (mhn, .inl (k_mhn, 5, .inl lf8)), (mhw, .inl (k_mhw, 5, .inl lf9)), (mhz, .inl (k_mhz, 5, .inl lf10)), (mhr, .inl (k_mhr, 120, .inl lf11)), (mtn, .inl (k_mtn, 96, .inl lf6)), (mtz, .inl (k_mtz, 4, .inl lf5))] [(kms, .int), (k_mts, .int), (k_mh, .int), (k_mhn, .int), (k_mhw, .int), (k_mhz, .int), (k_mhr, .int), (k_mtn, .int), (k_mtz, .int)] H84 locs85 := Z86
          clear Z86
          by_cases w58 : 0 ≤ slot ∧ slot ≤ 4
          · obtain ⟨j, hj, e59⟩ := zz_rng 4 w58 (by decide)
            rcases (show j = 0 ∨ j = 1 ∨ j = 2 ∨ j = 3 ∨ j = 4 by omega) with rfl | rfl | rfl | rfl | rfl
            · have e59 : slot = 0 := e59
              subst e59
              refine zz_v (v := 1) (by decide) ?_
              refine lv_if_eq (tgt := 53) hx hb dX7_lay_45 (by decide) (fun h => absurd h (by decide)) (fun _ => ?_)
              refine lv_iload hx hb dX7_lay_48 (lv_at hl83 0 rfl) ?_
              refine lv_if_ne (tgt := 56) hx hb dX7_lay_50 (by decide) (fun _ => ?_) (fun h => absurd h (by decide))
              refine lv_iload_n hx hb dX7_lay_56 rfl (lv_at hl83 3 rfl) ?_
              refine lv_iconst (v := 2) hx hb dX7_lay_57 (by decide) ?_
              refine lv_icmp_ne (tgt := 74) hx hb dX7_lay_58 (by decide) (fun h => absurd (by decide) h) (fun _ => ?_)
              refine lv_aload_n hx hb dX7_lay_61 rfl (lv_at hl83 1 rfl) ?_
              refine zz_get X Z87 0 rfl rfl (fun w h => List.mem_cons_of_mem _ (List.mem_append_right _ h)) 4 rfl (zz_m 2 rfl) rfl dX7_lay_62 ?_
              refine lv_iload_n hx hb dX7_lay_65 rfl (lv_at hl83 4 rfl) ?_
              refine zz_ild X Z87 2 1 rfl rfl (zz_in 0 4 rfl) dX7_lay_66 ?_
              refine zz_v (v := (-1)) atsf_0 ?_
              refine lv_if_ge (tgt := 74) hx hb dX7_lay_67 (by decide) (fun h => absurd h (by decide)) (fun _ => ?_)
              refine lv_ldcw (v := (-1000000011)) hx hb hown (hts _ (zz_m 3 rfl)) dX7_lay_70 ?_
              exact zz_iret X hr hlk Z87 () (by simp [sp_lay]) [] [] (by decide +kernel) rfl rfl dX7_lay_73
            · have e59 : slot = 1 := e59
              subst e59
              refine zz_v (v := 1) (by decide) ?_
              refine lv_if_eq (tgt := 53) hx hb dX7_lay_45 (by decide) (fun h => absurd h (by decide)) (fun _ => ?_)
              refine lv_iload hx hb dX7_lay_48 (lv_at hl83 0 rfl) ?_
              refine lv_if_ne (tgt := 56) hx hb dX7_lay_50 (by decide) (fun _ => ?_) (fun h => absurd h (by decide))
              refine lv_iload_n hx hb dX7_lay_56 rfl (lv_at hl83 3 rfl) ?_
              refine lv_iconst (v := 2) hx hb dX7_lay_57 (by decide) ?_
              refine lv_icmp_ne (tgt := 74) hx hb dX7_lay_58 (by decide) (fun h => absurd (by decide) h) (fun _ => ?_)
              refine lv_aload_n hx hb dX7_lay_61 rfl (lv_at hl83 1 rfl) ?_
              refine zz_get X Z87 0 rfl rfl (fun w h => List.mem_cons_of_mem _ (List.mem_append_right _ h)) 4 rfl (zz_m 2 rfl) rfl dX7_lay_62 ?_
              refine lv_iload_n hx hb dX7_lay_65 rfl (lv_at hl83 4 rfl) ?_
              refine zz_ild X Z87 2 1 rfl rfl (zz_in 0 4 rfl) dX7_lay_66 ?_
              refine zz_v (v := (-1)) atsf_0 ?_
              refine lv_if_ge (tgt := 74) hx hb dX7_lay_67 (by decide) (fun h => absurd h (by decide)) (fun _ => ?_)
              refine lv_ldcw (v := (-1000000011)) hx hb hown (hts _ (zz_m 3 rfl)) dX7_lay_70 ?_
              exact zz_iret X hr hlk Z87 () (by simp [sp_lay]) [] [] (by decide +kernel) rfl rfl dX7_lay_73
            · have e59 : slot = 2 := e59
              subst e59
              refine zz_v (v := 1) (by decide) ?_
              refine lv_if_eq (tgt := 53) hx hb dX7_lay_45 (by decide) (fun h => absurd h (by decide)) (fun _ => ?_)
              refine lv_iload hx hb dX7_lay_48 (lv_at hl83 0 rfl) ?_
              refine lv_if_ne (tgt := 56) hx hb dX7_lay_50 (by decide) (fun _ => ?_) (fun h => absurd h (by decide))
              refine lv_iload_n hx hb dX7_lay_56 rfl (lv_at hl83 3 rfl) ?_
              refine lv_iconst (v := 2) hx hb dX7_lay_57 (by decide) ?_
              refine lv_icmp_ne (tgt := 74) hx hb dX7_lay_58 (by decide) (fun h => absurd (by decide) h) (fun _ => ?_)
              refine lv_aload_n hx hb dX7_lay_61 rfl (lv_at hl83 1 rfl) ?_
              refine zz_get X Z87 0 rfl rfl (fun w h => List.mem_cons_of_mem _ (List.mem_append_right _ h)) 4 rfl (zz_m 2 rfl) rfl dX7_lay_62 ?_
              refine lv_iload_n hx hb dX7_lay_65 rfl (lv_at hl83 4 rfl) ?_
              refine zz_ild X Z87 2 1 rfl rfl (zz_in 0 4 rfl) dX7_lay_66 ?_
              refine zz_v (v := (-1)) atsf_0 ?_
              refine lv_if_ge (tgt := 74) hx hb dX7_lay_67 (by decide) (fun h => absurd h (by decide)) (fun _ => ?_)
              refine lv_ldcw (v := (-1000000011)) hx hb hown (hts _ (zz_m 3 rfl)) dX7_lay_70 ?_
              exact zz_iret X hr hlk Z87 () (by simp [sp_lay]) [] [] (by decide +kernel) rfl rfl dX7_lay_73
            · have e59 : slot = 3 := e59
              subst e59
              refine zz_v (v := 1) (by decide) ?_
              refine lv_if_eq (tgt := 53) hx hb dX7_lay_45 (by decide) (fun h => absurd h (by decide)) (fun _ => ?_)
              refine lv_iload hx hb dX7_lay_48 (lv_at hl83 0 rfl) ?_
              refine lv_if_ne (tgt := 56) hx hb dX7_lay_50 (by decide) (fun _ => ?_) (fun h => absurd h (by decide))
              refine lv_iload_n hx hb dX7_lay_56 rfl (lv_at hl83 3 rfl) ?_
              refine lv_iconst (v := 2) hx hb dX7_lay_57 (by decide) ?_
              refine lv_icmp_ne (tgt := 74) hx hb dX7_lay_58 (by decide) (fun h => absurd (by decide) h) (fun _ => ?_)
              refine lv_aload_n hx hb dX7_lay_61 rfl (lv_at hl83 1 rfl) ?_
              refine zz_get X Z87 0 rfl rfl (fun w h => List.mem_cons_of_mem _ (List.mem_append_right _ h)) 4 rfl (zz_m 2 rfl) rfl dX7_lay_62 ?_
              refine lv_iload_n hx hb dX7_lay_65 rfl (lv_at hl83 4 rfl) ?_
              refine zz_ild X Z87 2 1 rfl rfl (zz_in 0 4 rfl) dX7_lay_66 ?_
              refine zz_v (v := (-1)) atsf_0 ?_
              refine lv_if_ge (tgt := 74) hx hb dX7_lay_67 (by decide) (fun h => absurd h (by decide)) (fun _ => ?_)
              refine lv_ldcw (v := (-1000000011)) hx hb hown (hts _ (zz_m 3 rfl)) dX7_lay_70 ?_
              exact zz_iret X hr hlk Z87 () (by simp [sp_lay]) [] [] (by decide +kernel) rfl rfl dX7_lay_73
            · have e59 : slot = 4 := e59
              subst e59
              refine zz_v (v := 1) (by decide) ?_
              refine lv_if_eq (tgt := 53) hx hb dX7_lay_45 (by decide) (fun h => absurd h (by decide)) (fun _ => ?_)
              refine lv_iload hx hb dX7_lay_48 (lv_at hl83 0 rfl) ?_
              refine lv_if_ne (tgt := 56) hx hb dX7_lay_50 (by decide) (fun _ => ?_) (fun h => absurd h (by decide))
              refine lv_iload_n hx hb dX7_lay_56 rfl (lv_at hl83 3 rfl) ?_
              refine lv_iconst (v := 2) hx hb dX7_lay_57 (by decide) ?_
              refine lv_icmp_ne (tgt := 74) hx hb dX7_lay_58 (by decide) (fun h => absurd (by decide) h) (fun _ => ?_)
              refine lv_aload_n hx hb dX7_lay_61 rfl (lv_at hl83 1 rfl) ?_
              refine zz_get X Z87 0 rfl rfl (fun w h => List.mem_cons_of_mem _ (List.mem_append_right _ h)) 4 rfl (zz_m 2 rfl) rfl dX7_lay_62 ?_
              refine lv_iload_n hx hb dX7_lay_65 rfl (lv_at hl83 4 rfl) ?_
              refine zz_ild X Z87 2 1 rfl rfl (zz_in 0 4 rfl) dX7_lay_66 ?_
              refine zz_v (v := (-1)) atsf_0 ?_
              refine lv_if_ge (tgt := 74) hx hb dX7_lay_67 (by decide) (fun h => absurd h (by decide)) (fun _ => ?_)
              refine lv_ldcw (v := (-1000000011)) hx hb hown (hts _ (zz_m 3 rfl)) dX7_lay_70 ?_
              exact zz_iret X hr hlk Z87 () (by simp [sp_lay]) [] [] (by decide +kernel) rfl rfl dX7_lay_73
          · refine zz_v (v := 0) (zz_wiF w58) ?_
            refine lv_if_eq (tgt := 53) hx hb dX7_lay_45 (by decide) (fun _ => ?_) (fun h => absurd (by decide) h)
            refine lv_ldc (v := (-1000000001)) hx hb hown (hts _ (zz_m 1 rfl)) dX7_lay_53 ?_
            exact zz_iret X hr hlk Z87 () (by simp [sp_lay, w58]) [] [] (by decide +kernel) rfl rfl dX7_lay_55
        · have e54 : k = 1 := e54
          subst e54
          refine zz_v (v := 1) (by decide) ?_
          refine lv_if_eq (tgt := 38) hx hb dX7_lay_31 (by decide) (fun h => absurd h (by decide)) (fun _ => ?_)
          refine lv_iconst (v := 1) hx hb dX7_lay_34 (by decide) ?_
          refine lv_goto (tgt := 39) hx hb dX7_lay_35 (by decide) ?_
          refine lv_istore (lv' := [(4, .int 1), (0, .ref mo), (1, .int slot), (2, .int 2), (3, .int 1)]) hx hb dX7_lay_39 hl (by decide) rfl (fun ls88 hl89 => ?_)
          clear hl
          refine lv_iload_n hx hb dX7_lay_41 rfl (lv_at hl89 2 rfl) ?_
          refine zz_ci (WC := []) (TC := []) (WR := [(mo, .inr (7, [.ref ms, .ref mi, .ref ma, .int 0, .ref mts, .ref mtz, .ref mtn, .ref mh, .ref mhn, .ref mhw, .ref mhz, .ref mhr, .ref mcl, .ref mtp, .int 0, .int 0, .int 0, .int 0, .int 0, .int 0, .int 0, .int 0, .int 0, .int 0, .int 0, .ref mna, .ref mpi, .ref mca, .ref mwa, .int 0, .ref mrd])), (ms, .inl (kms, 3047, .inl f)), (mts, .inl (k_mts, 4, .inl tsf)), (mh, .inl (k_mh, 5, .inl hf)), (mhn, .inl (k_mhn, 5, .inl lf8)), (mhw, .inl (k_mhw, 5, .inl lf9)), (mhz, .inl (k_mhz, 5, .inl lf10)), (mhr, .inl (k_mhr, 120, .inl lf11)), (mtn, .inl (k_mtn, 96, .inl lf6)), (mtz, .inl (k_mtz, 4, .inl lf5))]) (TR := [(kms, .int), (k_mts, .int), (k_mh, .int), (k_mhn, .int), (k_mhw, .int), (k_mhz, .int), (k_mhr, .int), (k_mtn, .int), (k_mtz, .int)]) (k := 0) (n := 0) Z81 [] [0, 1, 2, 3, 4, 5, 6, 7, 8, 9] [] [0, 1, 2, 3, 4, 5, 6, 7, 8] rfl rfl (by decide +kernel) (by decide +kernel) (by decide +kernel) rfl rfl (fun Zc => va_runS (As := [.int slot]) (rest := []) X (c7_isSlot l D slot H78.size) (va_cwS 1 hts gX7_lay_X7_isSlot rfl rfl rfl zh_X7_isSlot ⟨Nat.le_of_ble_eq_true rfl, Nat.le_of_ble_eq_true rfl⟩) (zz_pS Zc) rfl rfl hl89.1 rfl (lv_room (Nat.le_of_ble_eq_true rfl)) dX7_lay_42 ⟨Nat.le_of_ble_eq_true rfl, Nat.le_of_ble_eq_true rfl⟩) rfl rfl (fun r62 u60 H90 locs91 hw61 Z92 => ?_)
          clear Z81
          subst r62
          have Z93 : zz_S D A s [(mo, .inr (7, [.ref ms, .ref mi, .ref ma, .int 0, .ref mts, .ref mtz, .ref mtn, .ref mh, .ref mhn, .ref mhw, .ref mhz, .ref mhr, .ref mcl, .ref mtp, .int 0, .int 0, .int 0, .int 0, .int 0, .int 0, .int 0, .int 0, .int 0, .int 0, .int 0, .ref mna, .ref mpi, .ref mca, .ref mwa, .int 0, .ref mrd])), (ms, .inl (kms, 3047, .inl f)), (mts, .inl (k_mts, 4, .inl tsf)), (mh, .inl (k_mh, 5, .inl hf)), (mhn, .inl (k_mhn, 5, .inl lf8)), (mhw, .inl (k_mhw, 5, .inl lf9)), (mhz, .inl (k_mhz, 5, .inl lf10)), (mhr, .inl (k_mhr, 120, .inl lf11)), (mtn, .inl (k_mtn, 96, .inl lf6)), (mtz, .inl (k_mtz, 4, .inl lf5))] [(kms, .int), (k_mts, .int), (k_mh, .int), (k_mhn, .int), (k_mhw, .int), (k_mhz, .int), (k_mhr, .int), (k_mtn, .int), (k_mtz, .int)] H90 locs91 := Z92
          clear Z92
          by_cases w63 : 0 ≤ slot ∧ slot ≤ 4
          · obtain ⟨j, hj, e64⟩ := zz_rng 4 w63 (by decide)
            rcases (show j = 0 ∨ j = 1 ∨ j = 2 ∨ j = 3 ∨ j = 4 by omega) with rfl | rfl | rfl | rfl | rfl
            · have e64 : slot = 0 := e64
              subst e64
              refine zz_v (v := 1) (by decide) ?_
              refine lv_if_eq (tgt := 53) hx hb dX7_lay_45 (by decide) (fun h => absurd h (by decide)) (fun _ => ?_)
              refine lv_iload hx hb dX7_lay_48 (lv_at hl89 0 rfl) ?_
              refine lv_if_ne (tgt := 56) hx hb dX7_lay_50 (by decide) (fun _ => ?_) (fun h => absurd h (by decide))
              refine lv_iload_n hx hb dX7_lay_56 rfl (lv_at hl89 3 rfl) ?_
              refine lv_iconst (v := 2) hx hb dX7_lay_57 (by decide) ?_
              refine lv_icmp_ne (tgt := 74) hx hb dX7_lay_58 (by decide) (fun h => absurd (by decide) h) (fun _ => ?_)
              refine lv_aload_n hx hb dX7_lay_61 rfl (lv_at hl89 1 rfl) ?_
              refine zz_get X Z93 0 rfl rfl (fun w h => List.mem_cons_of_mem _ (List.mem_append_right _ h)) 4 rfl (zz_m 2 rfl) rfl dX7_lay_62 ?_
              refine lv_iload_n hx hb dX7_lay_65 rfl (lv_at hl89 4 rfl) ?_
              refine zz_ild X Z93 2 1 rfl rfl (zz_in 1 4 rfl) dX7_lay_66 ?_
              refine zz_v (v := (-1)) atsf_1 ?_
              refine lv_if_ge (tgt := 74) hx hb dX7_lay_67 (by decide) (fun h => absurd h (by decide)) (fun _ => ?_)
              refine lv_ldcw (v := (-1000000011)) hx hb hown (hts _ (zz_m 3 rfl)) dX7_lay_70 ?_
              exact zz_iret X hr hlk Z93 () (by simp [sp_lay]) [] [] (by decide +kernel) rfl rfl dX7_lay_73
            · have e64 : slot = 1 := e64
              subst e64
              refine zz_v (v := 1) (by decide) ?_
              refine lv_if_eq (tgt := 53) hx hb dX7_lay_45 (by decide) (fun h => absurd h (by decide)) (fun _ => ?_)
              refine lv_iload hx hb dX7_lay_48 (lv_at hl89 0 rfl) ?_
              refine lv_if_ne (tgt := 56) hx hb dX7_lay_50 (by decide) (fun _ => ?_) (fun h => absurd h (by decide))
              refine lv_iload_n hx hb dX7_lay_56 rfl (lv_at hl89 3 rfl) ?_
              refine lv_iconst (v := 2) hx hb dX7_lay_57 (by decide) ?_
              refine lv_icmp_ne (tgt := 74) hx hb dX7_lay_58 (by decide) (fun h => absurd (by decide) h) (fun _ => ?_)
              refine lv_aload_n hx hb dX7_lay_61 rfl (lv_at hl89 1 rfl) ?_
              refine zz_get X Z93 0 rfl rfl (fun w h => List.mem_cons_of_mem _ (List.mem_append_right _ h)) 4 rfl (zz_m 2 rfl) rfl dX7_lay_62 ?_
              refine lv_iload_n hx hb dX7_lay_65 rfl (lv_at hl89 4 rfl) ?_
              refine zz_ild X Z93 2 1 rfl rfl (zz_in 1 4 rfl) dX7_lay_66 ?_
              refine zz_v (v := (-1)) atsf_1 ?_
              refine lv_if_ge (tgt := 74) hx hb dX7_lay_67 (by decide) (fun h => absurd h (by decide)) (fun _ => ?_)
              refine lv_ldcw (v := (-1000000011)) hx hb hown (hts _ (zz_m 3 rfl)) dX7_lay_70 ?_
              exact zz_iret X hr hlk Z93 () (by simp [sp_lay]) [] [] (by decide +kernel) rfl rfl dX7_lay_73
            · have e64 : slot = 2 := e64
              subst e64
              refine zz_v (v := 1) (by decide) ?_
              refine lv_if_eq (tgt := 53) hx hb dX7_lay_45 (by decide) (fun h => absurd h (by decide)) (fun _ => ?_)
              refine lv_iload hx hb dX7_lay_48 (lv_at hl89 0 rfl) ?_
              refine lv_if_ne (tgt := 56) hx hb dX7_lay_50 (by decide) (fun _ => ?_) (fun h => absurd h (by decide))
              refine lv_iload_n hx hb dX7_lay_56 rfl (lv_at hl89 3 rfl) ?_
              refine lv_iconst (v := 2) hx hb dX7_lay_57 (by decide) ?_
              refine lv_icmp_ne (tgt := 74) hx hb dX7_lay_58 (by decide) (fun h => absurd (by decide) h) (fun _ => ?_)
              refine lv_aload_n hx hb dX7_lay_61 rfl (lv_at hl89 1 rfl) ?_
              refine zz_get X Z93 0 rfl rfl (fun w h => List.mem_cons_of_mem _ (List.mem_append_right _ h)) 4 rfl (zz_m 2 rfl) rfl dX7_lay_62 ?_
              refine lv_iload_n hx hb dX7_lay_65 rfl (lv_at hl89 4 rfl) ?_
              refine zz_ild X Z93 2 1 rfl rfl (zz_in 1 4 rfl) dX7_lay_66 ?_
              refine zz_v (v := (-1)) atsf_1 ?_
              refine lv_if_ge (tgt := 74) hx hb dX7_lay_67 (by decide) (fun h => absurd h (by decide)) (fun _ => ?_)
              refine lv_ldcw (v := (-1000000011)) hx hb hown (hts _ (zz_m 3 rfl)) dX7_lay_70 ?_
              exact zz_iret X hr hlk Z93 () (by simp [sp_lay]) [] [] (by decide +kernel) rfl rfl dX7_lay_73
            · have e64 : slot = 3 := e64
              subst e64
              refine zz_v (v := 1) (by decide) ?_
              refine lv_if_eq (tgt := 53) hx hb dX7_lay_45 (by decide) (fun h => absurd h (by decide)) (fun _ => ?_)
              refine lv_iload hx hb dX7_lay_48 (lv_at hl89 0 rfl) ?_
              refine lv_if_ne (tgt := 56) hx hb dX7_lay_50 (by decide) (fun _ => ?_) (fun h => absurd h (by decide))
              refine lv_iload_n hx hb dX7_lay_56 rfl (lv_at hl89 3 rfl) ?_
              refine lv_iconst (v := 2) hx hb dX7_lay_57 (by decide) ?_
              refine lv_icmp_ne (tgt := 74) hx hb dX7_lay_58 (by decide) (fun h => absurd (by decide) h) (fun _ => ?_)
              refine lv_aload_n hx hb dX7_lay_61 rfl (lv_at hl89 1 rfl) ?_
              refine zz_get X Z93 0 rfl rfl (fun w h => List.mem_cons_of_mem _ (List.mem_append_right _ h)) 4 rfl (zz_m 2 rfl) rfl dX7_lay_62 ?_
              refine lv_iload_n hx hb dX7_lay_65 rfl (lv_at hl89 4 rfl) ?_
              refine zz_ild X Z93 2 1 rfl rfl (zz_in 1 4 rfl) dX7_lay_66 ?_
              refine zz_v (v := (-1)) atsf_1 ?_
              refine lv_if_ge (tgt := 74) hx hb dX7_lay_67 (by decide) (fun h => absurd h (by decide)) (fun _ => ?_)
              refine lv_ldcw (v := (-1000000011)) hx hb hown (hts _ (zz_m 3 rfl)) dX7_lay_70 ?_
              exact zz_iret X hr hlk Z93 () (by simp [sp_lay]) [] [] (by decide +kernel) rfl rfl dX7_lay_73
            · have e64 : slot = 4 := e64
              subst e64
              refine zz_v (v := 1) (by decide) ?_
              refine lv_if_eq (tgt := 53) hx hb dX7_lay_45 (by decide) (fun h => absurd h (by decide)) (fun _ => ?_)
              refine lv_iload hx hb dX7_lay_48 (lv_at hl89 0 rfl) ?_
              refine lv_if_ne (tgt := 56) hx hb dX7_lay_50 (by decide) (fun _ => ?_) (fun h => absurd h (by decide))
              refine lv_iload_n hx hb dX7_lay_56 rfl (lv_at hl89 3 rfl) ?_
              refine lv_iconst (v := 2) hx hb dX7_lay_57 (by decide) ?_
              refine lv_icmp_ne (tgt := 74) hx hb dX7_lay_58 (by decide) (fun h => absurd (by decide) h) (fun _ => ?_)
              refine lv_aload_n hx hb dX7_lay_61 rfl (lv_at hl89 1 rfl) ?_
              refine zz_get X Z93 0 rfl rfl (fun w h => List.mem_cons_of_mem _ (List.mem_append_right _ h)) 4 rfl (zz_m 2 rfl) rfl dX7_lay_62 ?_
              refine lv_iload_n hx hb dX7_lay_65 rfl (lv_at hl89 4 rfl) ?_
              refine zz_ild X Z93 2 1 rfl rfl (zz_in 1 4 rfl) dX7_lay_66 ?_
              refine zz_v (v := (-1)) atsf_1 ?_
              refine lv_if_ge (tgt := 74) hx hb dX7_lay_67 (by decide) (fun h => absurd h (by decide)) (fun _ => ?_)
              refine lv_ldcw (v := (-1000000011)) hx hb hown (hts _ (zz_m 3 rfl)) dX7_lay_70 ?_
              exact zz_iret X hr hlk Z93 () (by simp [sp_lay]) [] [] (by decide +kernel) rfl rfl dX7_lay_73
          · refine zz_v (v := 0) (zz_wiF w63) ?_
            refine lv_if_eq (tgt := 53) hx hb dX7_lay_45 (by decide) (fun _ => ?_) (fun h => absurd (by decide) h)
            refine lv_ldc (v := (-1000000001)) hx hb hown (hts _ (zz_m 1 rfl)) dX7_lay_53 ?_
            exact zz_iret X hr hlk Z93 () (by simp [sp_lay, w63]) [] [] (by decide +kernel) rfl rfl dX7_lay_55
        · have e54 : k = 2 := e54
          subst e54
          refine zz_v (v := 1) (by decide) ?_
          refine lv_if_eq (tgt := 38) hx hb dX7_lay_31 (by decide) (fun h => absurd h (by decide)) (fun _ => ?_)
          refine lv_iconst (v := 1) hx hb dX7_lay_34 (by decide) ?_
          refine lv_goto (tgt := 39) hx hb dX7_lay_35 (by decide) ?_
          refine lv_istore (lv' := [(4, .int 1), (0, .ref mo), (1, .int slot), (2, .int 2), (3, .int 2)]) hx hb dX7_lay_39 hl (by decide) rfl (fun ls94 hl95 => ?_)
          clear hl
          refine lv_iload_n hx hb dX7_lay_41 rfl (lv_at hl95 2 rfl) ?_
          refine zz_ci (WC := []) (TC := []) (WR := [(mo, .inr (7, [.ref ms, .ref mi, .ref ma, .int 0, .ref mts, .ref mtz, .ref mtn, .ref mh, .ref mhn, .ref mhw, .ref mhz, .ref mhr, .ref mcl, .ref mtp, .int 0, .int 0, .int 0, .int 0, .int 0, .int 0, .int 0, .int 0, .int 0, .int 0, .int 0, .ref mna, .ref mpi, .ref mca, .ref mwa, .int 0, .ref mrd])), (ms, .inl (kms, 3047, .inl f)), (mts, .inl (k_mts, 4, .inl tsf)), (mh, .inl (k_mh, 5, .inl hf)), (mhn, .inl (k_mhn, 5, .inl lf8)), (mhw, .inl (k_mhw, 5, .inl lf9)), (mhz, .inl (k_mhz, 5, .inl lf10)), (mhr, .inl (k_mhr, 120, .inl lf11)), (mtn, .inl (k_mtn, 96, .inl lf6)), (mtz, .inl (k_mtz, 4, .inl lf5))]) (TR := [(kms, .int), (k_mts, .int), (k_mh, .int), (k_mhn, .int), (k_mhw, .int), (k_mhz, .int), (k_mhr, .int), (k_mtn, .int), (k_mtz, .int)]) (k := 0) (n := 0) Z81 [] [0, 1, 2, 3, 4, 5, 6, 7, 8, 9] [] [0, 1, 2, 3, 4, 5, 6, 7, 8] rfl rfl (by decide +kernel) (by decide +kernel) (by decide +kernel) rfl rfl (fun Zc => va_runS (As := [.int slot]) (rest := []) X (c7_isSlot l D slot H78.size) (va_cwS 1 hts gX7_lay_X7_isSlot rfl rfl rfl zh_X7_isSlot ⟨Nat.le_of_ble_eq_true rfl, Nat.le_of_ble_eq_true rfl⟩) (zz_pS Zc) rfl rfl hl95.1 rfl (lv_room (Nat.le_of_ble_eq_true rfl)) dX7_lay_42 ⟨Nat.le_of_ble_eq_true rfl, Nat.le_of_ble_eq_true rfl⟩) rfl rfl (fun r67 u65 H96 locs97 hw66 Z98 => ?_)
          clear Z81
          subst r67
          have Z99 : zz_S D A s [(mo, .inr (7, [.ref ms, .ref mi, .ref ma, .int 0, .ref mts, .ref mtz, .ref mtn, .ref mh, .ref mhn, .ref mhw, .ref mhz, .ref mhr, .ref mcl, .ref mtp, .int 0, .int 0, .int 0, .int 0, .int 0, .int 0, .int 0, .int 0, .int 0, .int 0, .int 0, .ref mna, .ref mpi, .ref mca, .ref mwa, .int 0, .ref mrd])), (ms, .inl (kms, 3047, .inl f)), (mts, .inl (k_mts, 4, .inl tsf)), (mh, .inl (k_mh, 5, .inl hf)), (mhn, .inl (k_mhn, 5, .inl lf8)), (mhw, .inl (k_mhw, 5, .inl lf9)), (mhz, .inl (k_mhz, 5, .inl lf10)), (mhr, .inl (k_mhr, 120, .inl lf11)), (mtn, .inl (k_mtn, 96, .inl lf6)), (mtz, .inl (k_mtz, 4, .inl lf5))] [(kms, .int), (k_mts, .int), (k_mh, .int), (k_mhn, .int), (k_mhw, .int), (k_mhz, .int), (k_mhr, .int), (k_mtn, .int), (k_mtz, .int)] H96 locs97 := Z98
          clear Z98
          by_cases w68 : 0 ≤ slot ∧ slot ≤ 4
          · obtain ⟨j, hj, e69⟩ := zz_rng 4 w68 (by decide)
            rcases (show j = 0 ∨ j = 1 ∨ j = 2 ∨ j = 3 ∨ j = 4 by omega) with rfl | rfl | rfl | rfl | rfl
            · have e69 : slot = 0 := e69
              subst e69
              refine zz_v (v := 1) (by decide) ?_
              refine lv_if_eq (tgt := 53) hx hb dX7_lay_45 (by decide) (fun h => absurd h (by decide)) (fun _ => ?_)
              refine lv_iload hx hb dX7_lay_48 (lv_at hl95 0 rfl) ?_
              refine lv_if_ne (tgt := 56) hx hb dX7_lay_50 (by decide) (fun _ => ?_) (fun h => absurd h (by decide))
              refine lv_iload_n hx hb dX7_lay_56 rfl (lv_at hl95 3 rfl) ?_
              refine lv_iconst (v := 2) hx hb dX7_lay_57 (by decide) ?_
              refine lv_icmp_ne (tgt := 74) hx hb dX7_lay_58 (by decide) (fun h => absurd (by decide) h) (fun _ => ?_)
              refine lv_aload_n hx hb dX7_lay_61 rfl (lv_at hl95 1 rfl) ?_
              refine zz_get X Z99 0 rfl rfl (fun w h => List.mem_cons_of_mem _ (List.mem_append_right _ h)) 4 rfl (zz_m 2 rfl) rfl dX7_lay_62 ?_
              refine lv_iload_n hx hb dX7_lay_65 rfl (lv_at hl95 4 rfl) ?_
              refine zz_ild X Z99 2 1 rfl rfl (zz_in 2 4 rfl) dX7_lay_66 ?_
              refine zz_v (v := (-1)) atsf_2 ?_
              refine lv_if_ge (tgt := 74) hx hb dX7_lay_67 (by decide) (fun h => absurd h (by decide)) (fun _ => ?_)
              refine lv_ldcw (v := (-1000000011)) hx hb hown (hts _ (zz_m 3 rfl)) dX7_lay_70 ?_
              exact zz_iret X hr hlk Z99 () (by simp [sp_lay]) [] [] (by decide +kernel) rfl rfl dX7_lay_73
            · have e69 : slot = 1 := e69
              subst e69
              refine zz_v (v := 1) (by decide) ?_
              refine lv_if_eq (tgt := 53) hx hb dX7_lay_45 (by decide) (fun h => absurd h (by decide)) (fun _ => ?_)
              refine lv_iload hx hb dX7_lay_48 (lv_at hl95 0 rfl) ?_
              refine lv_if_ne (tgt := 56) hx hb dX7_lay_50 (by decide) (fun _ => ?_) (fun h => absurd h (by decide))
              refine lv_iload_n hx hb dX7_lay_56 rfl (lv_at hl95 3 rfl) ?_
              refine lv_iconst (v := 2) hx hb dX7_lay_57 (by decide) ?_
              refine lv_icmp_ne (tgt := 74) hx hb dX7_lay_58 (by decide) (fun h => absurd (by decide) h) (fun _ => ?_)
              refine lv_aload_n hx hb dX7_lay_61 rfl (lv_at hl95 1 rfl) ?_
              refine zz_get X Z99 0 rfl rfl (fun w h => List.mem_cons_of_mem _ (List.mem_append_right _ h)) 4 rfl (zz_m 2 rfl) rfl dX7_lay_62 ?_
              refine lv_iload_n hx hb dX7_lay_65 rfl (lv_at hl95 4 rfl) ?_
              refine zz_ild X Z99 2 1 rfl rfl (zz_in 2 4 rfl) dX7_lay_66 ?_
              refine zz_v (v := (-1)) atsf_2 ?_
              refine lv_if_ge (tgt := 74) hx hb dX7_lay_67 (by decide) (fun h => absurd h (by decide)) (fun _ => ?_)
              refine lv_ldcw (v := (-1000000011)) hx hb hown (hts _ (zz_m 3 rfl)) dX7_lay_70 ?_
              exact zz_iret X hr hlk Z99 () (by simp [sp_lay]) [] [] (by decide +kernel) rfl rfl dX7_lay_73
            · have e69 : slot = 2 := e69
              subst e69
              refine zz_v (v := 1) (by decide) ?_
              refine lv_if_eq (tgt := 53) hx hb dX7_lay_45 (by decide) (fun h => absurd h (by decide)) (fun _ => ?_)
              refine lv_iload hx hb dX7_lay_48 (lv_at hl95 0 rfl) ?_
              refine lv_if_ne (tgt := 56) hx hb dX7_lay_50 (by decide) (fun _ => ?_) (fun h => absurd h (by decide))
              refine lv_iload_n hx hb dX7_lay_56 rfl (lv_at hl95 3 rfl) ?_
              refine lv_iconst (v := 2) hx hb dX7_lay_57 (by decide) ?_
              refine lv_icmp_ne (tgt := 74) hx hb dX7_lay_58 (by decide) (fun h => absurd (by decide) h) (fun _ => ?_)
              refine lv_aload_n hx hb dX7_lay_61 rfl (lv_at hl95 1 rfl) ?_
              refine zz_get X Z99 0 rfl rfl (fun w h => List.mem_cons_of_mem _ (List.mem_append_right _ h)) 4 rfl (zz_m 2 rfl) rfl dX7_lay_62 ?_
              refine lv_iload_n hx hb dX7_lay_65 rfl (lv_at hl95 4 rfl) ?_
              refine zz_ild X Z99 2 1 rfl rfl (zz_in 2 4 rfl) dX7_lay_66 ?_
              refine zz_v (v := (-1)) atsf_2 ?_
              refine lv_if_ge (tgt := 74) hx hb dX7_lay_67 (by decide) (fun h => absurd h (by decide)) (fun _ => ?_)
              refine lv_ldcw (v := (-1000000011)) hx hb hown (hts _ (zz_m 3 rfl)) dX7_lay_70 ?_
              exact zz_iret X hr hlk Z99 () (by simp [sp_lay]) [] [] (by decide +kernel) rfl rfl dX7_lay_73
            · have e69 : slot = 3 := e69
              subst e69
              refine zz_v (v := 1) (by decide) ?_
              refine lv_if_eq (tgt := 53) hx hb dX7_lay_45 (by decide) (fun h => absurd h (by decide)) (fun _ => ?_)
              refine lv_iload hx hb dX7_lay_48 (lv_at hl95 0 rfl) ?_
              refine lv_if_ne (tgt := 56) hx hb dX7_lay_50 (by decide) (fun _ => ?_) (fun h => absurd h (by decide))
              refine lv_iload_n hx hb dX7_lay_56 rfl (lv_at hl95 3 rfl) ?_
              refine lv_iconst (v := 2) hx hb dX7_lay_57 (by decide) ?_
              refine lv_icmp_ne (tgt := 74) hx hb dX7_lay_58 (by decide) (fun h => absurd (by decide) h) (fun _ => ?_)
              refine lv_aload_n hx hb dX7_lay_61 rfl (lv_at hl95 1 rfl) ?_
              refine zz_get X Z99 0 rfl rfl (fun w h => List.mem_cons_of_mem _ (List.mem_append_right _ h)) 4 rfl (zz_m 2 rfl) rfl dX7_lay_62 ?_
              refine lv_iload_n hx hb dX7_lay_65 rfl (lv_at hl95 4 rfl) ?_
              refine zz_ild X Z99 2 1 rfl rfl (zz_in 2 4 rfl) dX7_lay_66 ?_
              refine zz_v (v := (-1)) atsf_2 ?_
              refine lv_if_ge (tgt := 74) hx hb dX7_lay_67 (by decide) (fun h => absurd h (by decide)) (fun _ => ?_)
              refine lv_ldcw (v := (-1000000011)) hx hb hown (hts _ (zz_m 3 rfl)) dX7_lay_70 ?_
              exact zz_iret X hr hlk Z99 () (by simp [sp_lay]) [] [] (by decide +kernel) rfl rfl dX7_lay_73
            · have e69 : slot = 4 := e69
              subst e69
              refine zz_v (v := 1) (by decide) ?_
              refine lv_if_eq (tgt := 53) hx hb dX7_lay_45 (by decide) (fun h => absurd h (by decide)) (fun _ => ?_)
              refine lv_iload hx hb dX7_lay_48 (lv_at hl95 0 rfl) ?_
              refine lv_if_ne (tgt := 56) hx hb dX7_lay_50 (by decide) (fun _ => ?_) (fun h => absurd h (by decide))
              refine lv_iload_n hx hb dX7_lay_56 rfl (lv_at hl95 3 rfl) ?_
              refine lv_iconst (v := 2) hx hb dX7_lay_57 (by decide) ?_
              refine lv_icmp_ne (tgt := 74) hx hb dX7_lay_58 (by decide) (fun h => absurd (by decide) h) (fun _ => ?_)
              refine lv_aload_n hx hb dX7_lay_61 rfl (lv_at hl95 1 rfl) ?_
              refine zz_get X Z99 0 rfl rfl (fun w h => List.mem_cons_of_mem _ (List.mem_append_right _ h)) 4 rfl (zz_m 2 rfl) rfl dX7_lay_62 ?_
              refine lv_iload_n hx hb dX7_lay_65 rfl (lv_at hl95 4 rfl) ?_
              refine zz_ild X Z99 2 1 rfl rfl (zz_in 2 4 rfl) dX7_lay_66 ?_
              refine zz_v (v := (-1)) atsf_2 ?_
              refine lv_if_ge (tgt := 74) hx hb dX7_lay_67 (by decide) (fun h => absurd h (by decide)) (fun _ => ?_)
              refine lv_ldcw (v := (-1000000011)) hx hb hown (hts _ (zz_m 3 rfl)) dX7_lay_70 ?_
              exact zz_iret X hr hlk Z99 () (by simp [sp_lay]) [] [] (by decide +kernel) rfl rfl dX7_lay_73
          · refine zz_v (v := 0) (zz_wiF w68) ?_
            refine lv_if_eq (tgt := 53) hx hb dX7_lay_45 (by decide) (fun _ => ?_) (fun h => absurd (by decide) h)
            refine lv_ldc (v := (-1000000001)) hx hb hown (hts _ (zz_m 1 rfl)) dX7_lay_53 ?_
            exact zz_iret X hr hlk Z99 () (by simp [sp_lay, w68]) [] [] (by decide +kernel) rfl rfl dX7_lay_55
        · have e54 : k = 3 := e54
          subst e54
          refine zz_v (v := 1) (by decide) ?_
          refine lv_if_eq (tgt := 38) hx hb dX7_lay_31 (by decide) (fun h => absurd h (by decide)) (fun _ => ?_)
          refine lv_iconst (v := 1) hx hb dX7_lay_34 (by decide) ?_
          refine lv_goto (tgt := 39) hx hb dX7_lay_35 (by decide) ?_
          refine lv_istore (lv' := [(4, .int 1), (0, .ref mo), (1, .int slot), (2, .int 2), (3, .int 3)]) hx hb dX7_lay_39 hl (by decide) rfl (fun ls100 hl101 => ?_)
          clear hl
          refine lv_iload_n hx hb dX7_lay_41 rfl (lv_at hl101 2 rfl) ?_
          refine zz_ci (WC := []) (TC := []) (WR := [(mo, .inr (7, [.ref ms, .ref mi, .ref ma, .int 0, .ref mts, .ref mtz, .ref mtn, .ref mh, .ref mhn, .ref mhw, .ref mhz, .ref mhr, .ref mcl, .ref mtp, .int 0, .int 0, .int 0, .int 0, .int 0, .int 0, .int 0, .int 0, .int 0, .int 0, .int 0, .ref mna, .ref mpi, .ref mca, .ref mwa, .int 0, .ref mrd])), (ms, .inl (kms, 3047, .inl f)), (mts, .inl (k_mts, 4, .inl tsf)), (mh, .inl (k_mh, 5, .inl hf)), (mhn, .inl (k_mhn, 5, .inl lf8)), (mhw, .inl (k_mhw, 5, .inl lf9)), (mhz, .inl (k_mhz, 5, .inl lf10)), (mhr, .inl (k_mhr, 120, .inl lf11)), (mtn, .inl (k_mtn, 96, .inl lf6)), (mtz, .inl (k_mtz, 4, .inl lf5))]) (TR := [(kms, .int), (k_mts, .int), (k_mh, .int), (k_mhn, .int), (k_mhw, .int), (k_mhz, .int), (k_mhr, .int), (k_mtn, .int), (k_mtz, .int)]) (k := 0) (n := 0) Z81 [] [0, 1, 2, 3, 4, 5, 6, 7, 8, 9] [] [0, 1, 2, 3, 4, 5, 6, 7, 8] rfl rfl (by decide +kernel) (by decide +kernel) (by decide +kernel) rfl rfl (fun Zc => va_runS (As := [.int slot]) (rest := []) X (c7_isSlot l D slot H78.size) (va_cwS 1 hts gX7_lay_X7_isSlot rfl rfl rfl zh_X7_isSlot ⟨Nat.le_of_ble_eq_true rfl, Nat.le_of_ble_eq_true rfl⟩) (zz_pS Zc) rfl rfl hl101.1 rfl (lv_room (Nat.le_of_ble_eq_true rfl)) dX7_lay_42 ⟨Nat.le_of_ble_eq_true rfl, Nat.le_of_ble_eq_true rfl⟩) rfl rfl (fun r72 u70 H102 locs103 hw71 Z104 => ?_)
          clear Z81
          subst r72
          have Z105 : zz_S D A s [(mo, .inr (7, [.ref ms, .ref mi, .ref ma, .int 0, .ref mts, .ref mtz, .ref mtn, .ref mh, .ref mhn, .ref mhw, .ref mhz, .ref mhr, .ref mcl, .ref mtp, .int 0, .int 0, .int 0, .int 0, .int 0, .int 0, .int 0, .int 0, .int 0, .int 0, .int 0, .ref mna, .ref mpi, .ref mca, .ref mwa, .int 0, .ref mrd])), (ms, .inl (kms, 3047, .inl f)), (mts, .inl (k_mts, 4, .inl tsf)), (mh, .inl (k_mh, 5, .inl hf)), (mhn, .inl (k_mhn, 5, .inl lf8)), (mhw, .inl (k_mhw, 5, .inl lf9)), (mhz, .inl (k_mhz, 5, .inl lf10)), (mhr, .inl (k_mhr, 120, .inl lf11)), (mtn, .inl (k_mtn, 96, .inl lf6)), (mtz, .inl (k_mtz, 4, .inl lf5))] [(kms, .int), (k_mts, .int), (k_mh, .int), (k_mhn, .int), (k_mhw, .int), (k_mhz, .int), (k_mhr, .int), (k_mtn, .int), (k_mtz, .int)] H102 locs103 := Z104
          clear Z104
          by_cases w73 : 0 ≤ slot ∧ slot ≤ 4
          · obtain ⟨j, hj, e74⟩ := zz_rng 4 w73 (by decide)
            rcases (show j = 0 ∨ j = 1 ∨ j = 2 ∨ j = 3 ∨ j = 4 by omega) with rfl | rfl | rfl | rfl | rfl
            · have e74 : slot = 0 := e74
              subst e74
              refine zz_v (v := 1) (by decide) ?_
              refine lv_if_eq (tgt := 53) hx hb dX7_lay_45 (by decide) (fun h => absurd h (by decide)) (fun _ => ?_)
              refine lv_iload hx hb dX7_lay_48 (lv_at hl101 0 rfl) ?_
              refine lv_if_ne (tgt := 56) hx hb dX7_lay_50 (by decide) (fun _ => ?_) (fun h => absurd h (by decide))
              refine lv_iload_n hx hb dX7_lay_56 rfl (lv_at hl101 3 rfl) ?_
              refine lv_iconst (v := 2) hx hb dX7_lay_57 (by decide) ?_
              refine lv_icmp_ne (tgt := 74) hx hb dX7_lay_58 (by decide) (fun h => absurd (by decide) h) (fun _ => ?_)
              refine lv_aload_n hx hb dX7_lay_61 rfl (lv_at hl101 1 rfl) ?_
              refine zz_get X Z105 0 rfl rfl (fun w h => List.mem_cons_of_mem _ (List.mem_append_right _ h)) 4 rfl (zz_m 2 rfl) rfl dX7_lay_62 ?_
              refine lv_iload_n hx hb dX7_lay_65 rfl (lv_at hl101 4 rfl) ?_
              refine zz_ild X Z105 2 1 rfl rfl (zz_in 3 4 rfl) dX7_lay_66 ?_
              refine zz_v (v := (-1)) atsf_3 ?_
              refine lv_if_ge (tgt := 74) hx hb dX7_lay_67 (by decide) (fun h => absurd h (by decide)) (fun _ => ?_)
              refine lv_ldcw (v := (-1000000011)) hx hb hown (hts _ (zz_m 3 rfl)) dX7_lay_70 ?_
              exact zz_iret X hr hlk Z105 () (by simp [sp_lay]) [] [] (by decide +kernel) rfl rfl dX7_lay_73
            · have e74 : slot = 1 := e74
              subst e74
              refine zz_v (v := 1) (by decide) ?_
              refine lv_if_eq (tgt := 53) hx hb dX7_lay_45 (by decide) (fun h => absurd h (by decide)) (fun _ => ?_)
              refine lv_iload hx hb dX7_lay_48 (lv_at hl101 0 rfl) ?_
              refine lv_if_ne (tgt := 56) hx hb dX7_lay_50 (by decide) (fun _ => ?_) (fun h => absurd h (by decide))
              refine lv_iload_n hx hb dX7_lay_56 rfl (lv_at hl101 3 rfl) ?_
              refine lv_iconst (v := 2) hx hb dX7_lay_57 (by decide) ?_
              refine lv_icmp_ne (tgt := 74) hx hb dX7_lay_58 (by decide) (fun h => absurd (by decide) h) (fun _ => ?_)
              refine lv_aload_n hx hb dX7_lay_61 rfl (lv_at hl101 1 rfl) ?_
              refine zz_get X Z105 0 rfl rfl (fun w h => List.mem_cons_of_mem _ (List.mem_append_right _ h)) 4 rfl (zz_m 2 rfl) rfl dX7_lay_62 ?_
              refine lv_iload_n hx hb dX7_lay_65 rfl (lv_at hl101 4 rfl) ?_
              refine zz_ild X Z105 2 1 rfl rfl (zz_in 3 4 rfl) dX7_lay_66 ?_
              refine zz_v (v := (-1)) atsf_3 ?_
              refine lv_if_ge (tgt := 74) hx hb dX7_lay_67 (by decide) (fun h => absurd h (by decide)) (fun _ => ?_)
              refine lv_ldcw (v := (-1000000011)) hx hb hown (hts _ (zz_m 3 rfl)) dX7_lay_70 ?_
              exact zz_iret X hr hlk Z105 () (by simp [sp_lay]) [] [] (by decide +kernel) rfl rfl dX7_lay_73
            · have e74 : slot = 2 := e74
              subst e74
              refine zz_v (v := 1) (by decide) ?_
              refine lv_if_eq (tgt := 53) hx hb dX7_lay_45 (by decide) (fun h => absurd h (by decide)) (fun _ => ?_)
              refine lv_iload hx hb dX7_lay_48 (lv_at hl101 0 rfl) ?_
              refine lv_if_ne (tgt := 56) hx hb dX7_lay_50 (by decide) (fun _ => ?_) (fun h => absurd h (by decide))
              refine lv_iload_n hx hb dX7_lay_56 rfl (lv_at hl101 3 rfl) ?_
              refine lv_iconst (v := 2) hx hb dX7_lay_57 (by decide) ?_
              refine lv_icmp_ne (tgt := 74) hx hb dX7_lay_58 (by decide) (fun h => absurd (by decide) h) (fun _ => ?_)
              refine lv_aload_n hx hb dX7_lay_61 rfl (lv_at hl101 1 rfl) ?_
              refine zz_get X Z105 0 rfl rfl (fun w h => List.mem_cons_of_mem _ (List.mem_append_right _ h)) 4 rfl (zz_m 2 rfl) rfl dX7_lay_62 ?_
              refine lv_iload_n hx hb dX7_lay_65 rfl (lv_at hl101 4 rfl) ?_
              refine zz_ild X Z105 2 1 rfl rfl (zz_in 3 4 rfl) dX7_lay_66 ?_
              refine zz_v (v := (-1)) atsf_3 ?_
              refine lv_if_ge (tgt := 74) hx hb dX7_lay_67 (by decide) (fun h => absurd h (by decide)) (fun _ => ?_)
              refine lv_ldcw (v := (-1000000011)) hx hb hown (hts _ (zz_m 3 rfl)) dX7_lay_70 ?_
              exact zz_iret X hr hlk Z105 () (by simp [sp_lay]) [] [] (by decide +kernel) rfl rfl dX7_lay_73
            · have e74 : slot = 3 := e74
              subst e74
              refine zz_v (v := 1) (by decide) ?_
              refine lv_if_eq (tgt := 53) hx hb dX7_lay_45 (by decide) (fun h => absurd h (by decide)) (fun _ => ?_)
              refine lv_iload hx hb dX7_lay_48 (lv_at hl101 0 rfl) ?_
              refine lv_if_ne (tgt := 56) hx hb dX7_lay_50 (by decide) (fun _ => ?_) (fun h => absurd h (by decide))
              refine lv_iload_n hx hb dX7_lay_56 rfl (lv_at hl101 3 rfl) ?_
              refine lv_iconst (v := 2) hx hb dX7_lay_57 (by decide) ?_
              refine lv_icmp_ne (tgt := 74) hx hb dX7_lay_58 (by decide) (fun h => absurd (by decide) h) (fun _ => ?_)
              refine lv_aload_n hx hb dX7_lay_61 rfl (lv_at hl101 1 rfl) ?_
              refine zz_get X Z105 0 rfl rfl (fun w h => List.mem_cons_of_mem _ (List.mem_append_right _ h)) 4 rfl (zz_m 2 rfl) rfl dX7_lay_62 ?_
              refine lv_iload_n hx hb dX7_lay_65 rfl (lv_at hl101 4 rfl) ?_
              refine zz_ild X Z105 2 1 rfl rfl (zz_in 3 4 rfl) dX7_lay_66 ?_
              refine zz_v (v := (-1)) atsf_3 ?_
              refine lv_if_ge (tgt := 74) hx hb dX7_lay_67 (by decide) (fun h => absurd h (by decide)) (fun _ => ?_)
              refine lv_ldcw (v := (-1000000011)) hx hb hown (hts _ (zz_m 3 rfl)) dX7_lay_70 ?_
              exact zz_iret X hr hlk Z105 () (by simp [sp_lay]) [] [] (by decide +kernel) rfl rfl dX7_lay_73
            · have e74 : slot = 4 := e74
              subst e74
              refine zz_v (v := 1) (by decide) ?_
              refine lv_if_eq (tgt := 53) hx hb dX7_lay_45 (by decide) (fun h => absurd h (by decide)) (fun _ => ?_)
              refine lv_iload hx hb dX7_lay_48 (lv_at hl101 0 rfl) ?_
              refine lv_if_ne (tgt := 56) hx hb dX7_lay_50 (by decide) (fun _ => ?_) (fun h => absurd h (by decide))
              refine lv_iload_n hx hb dX7_lay_56 rfl (lv_at hl101 3 rfl) ?_
              refine lv_iconst (v := 2) hx hb dX7_lay_57 (by decide) ?_
              refine lv_icmp_ne (tgt := 74) hx hb dX7_lay_58 (by decide) (fun h => absurd (by decide) h) (fun _ => ?_)
              refine lv_aload_n hx hb dX7_lay_61 rfl (lv_at hl101 1 rfl) ?_
              refine zz_get X Z105 0 rfl rfl (fun w h => List.mem_cons_of_mem _ (List.mem_append_right _ h)) 4 rfl (zz_m 2 rfl) rfl dX7_lay_62 ?_
              refine lv_iload_n hx hb dX7_lay_65 rfl (lv_at hl101 4 rfl) ?_
              refine zz_ild X Z105 2 1 rfl rfl (zz_in 3 4 rfl) dX7_lay_66 ?_
              refine zz_v (v := (-1)) atsf_3 ?_
              refine lv_if_ge (tgt := 74) hx hb dX7_lay_67 (by decide) (fun h => absurd h (by decide)) (fun _ => ?_)
              refine lv_ldcw (v := (-1000000011)) hx hb hown (hts _ (zz_m 3 rfl)) dX7_lay_70 ?_
              exact zz_iret X hr hlk Z105 () (by simp [sp_lay]) [] [] (by decide +kernel) rfl rfl dX7_lay_73
          · refine zz_v (v := 0) (zz_wiF w73) ?_
            refine lv_if_eq (tgt := 53) hx hb dX7_lay_45 (by decide) (fun _ => ?_) (fun h => absurd (by decide) h)
            refine lv_ldc (v := (-1000000001)) hx hb hown (hts _ (zz_m 1 rfl)) dX7_lay_53 ?_
            exact zz_iret X hr hlk Z105 () (by simp [sp_lay, w73]) [] [] (by decide +kernel) rfl rfl dX7_lay_55
      · refine zz_v (v := 0) (zz_wiF w53) ?_
        refine lv_if_eq (tgt := 38) hx hb dX7_lay_31 (by decide) (fun _ => ?_) (fun h => absurd (by decide) h)
        refine lv_iconst (v := 0) hx hb dX7_lay_38 (by decide) ?_
        refine lv_istore (lv' := [(4, .int 0), (0, .ref mo), (1, .int slot), (2, .int 2), (3, .int k)]) hx hb dX7_lay_39 hl (by decide) rfl (fun ls106 hl107 => ?_)
        clear hl
        refine lv_iload_n hx hb dX7_lay_41 rfl (lv_at hl107 2 rfl) ?_
        refine zz_ci (WC := []) (TC := []) (WR := [(mo, .inr (7, [.ref ms, .ref mi, .ref ma, .int 0, .ref mts, .ref mtz, .ref mtn, .ref mh, .ref mhn, .ref mhw, .ref mhz, .ref mhr, .ref mcl, .ref mtp, .int 0, .int 0, .int 0, .int 0, .int 0, .int 0, .int 0, .int 0, .int 0, .int 0, .int 0, .ref mna, .ref mpi, .ref mca, .ref mwa, .int 0, .ref mrd])), (ms, .inl (kms, 3047, .inl f)), (mts, .inl (k_mts, 4, .inl tsf)), (mh, .inl (k_mh, 5, .inl hf)), (mhn, .inl (k_mhn, 5, .inl lf8)), (mhw, .inl (k_mhw, 5, .inl lf9)), (mhz, .inl (k_mhz, 5, .inl lf10)), (mhr, .inl (k_mhr, 120, .inl lf11)), (mtn, .inl (k_mtn, 96, .inl lf6)), (mtz, .inl (k_mtz, 4, .inl lf5))]) (TR := [(kms, .int), (k_mts, .int), (k_mh, .int), (k_mhn, .int), (k_mhw, .int), (k_mhz, .int), (k_mhr, .int), (k_mtn, .int), (k_mtz, .int)]) (k := 0) (n := 0) Z81 [] [0, 1, 2, 3, 4, 5, 6, 7, 8, 9] [] [0, 1, 2, 3, 4, 5, 6, 7, 8] rfl rfl (by decide +kernel) (by decide +kernel) (by decide +kernel) rfl rfl (fun Zc => va_runS (As := [.int slot]) (rest := []) X (c7_isSlot l D slot H78.size) (va_cwS 1 hts gX7_lay_X7_isSlot rfl rfl rfl zh_X7_isSlot ⟨Nat.le_of_ble_eq_true rfl, Nat.le_of_ble_eq_true rfl⟩) (zz_pS Zc) rfl rfl hl107.1 rfl (lv_room (Nat.le_of_ble_eq_true rfl)) dX7_lay_42 ⟨Nat.le_of_ble_eq_true rfl, Nat.le_of_ble_eq_true rfl⟩) rfl rfl (fun r77 u75 H108 locs109 hw76 Z110 => ?_)
        clear Z81
        subst r77
        have Z111 : zz_S D A s [(mo, .inr (7, [.ref ms, .ref mi, .ref ma, .int 0, .ref mts, .ref mtz, .ref mtn, .ref mh, .ref mhn, .ref mhw, .ref mhz, .ref mhr, .ref mcl, .ref mtp, .int 0, .int 0, .int 0, .int 0, .int 0, .int 0, .int 0, .int 0, .int 0, .int 0, .int 0, .ref mna, .ref mpi, .ref mca, .ref mwa, .int 0, .ref mrd])), (ms, .inl (kms, 3047, .inl f)), (mts, .inl (k_mts, 4, .inl tsf)), (mh, .inl (k_mh, 5, .inl hf)), (mhn, .inl (k_mhn, 5, .inl lf8)), (mhw, .inl (k_mhw, 5, .inl lf9)), (mhz, .inl (k_mhz, 5, .inl lf10)), (mhr, .inl (k_mhr, 120, .inl lf11)), (mtn, .inl (k_mtn, 96, .inl lf6)), (mtz, .inl (k_mtz, 4, .inl lf5))] [(kms, .int), (k_mts, .int), (k_mh, .int), (k_mhn, .int), (k_mhw, .int), (k_mhz, .int), (k_mhr, .int), (k_mtn, .int), (k_mtz, .int)] H108 locs109 := Z110
        clear Z110
        by_cases w78 : 0 ≤ slot ∧ slot ≤ 4
        · obtain ⟨j, hj, e79⟩ := zz_rng 4 w78 (by decide)
          rcases (show j = 0 ∨ j = 1 ∨ j = 2 ∨ j = 3 ∨ j = 4 by omega) with rfl | rfl | rfl | rfl | rfl
          · have e79 : slot = 0 := e79
            subst e79
            refine zz_v (v := 1) (by decide) ?_
            refine lv_if_eq (tgt := 53) hx hb dX7_lay_45 (by decide) (fun h => absurd h (by decide)) (fun _ => ?_)
            refine lv_iload hx hb dX7_lay_48 (lv_at hl107 0 rfl) ?_
            refine lv_if_ne (tgt := 56) hx hb dX7_lay_50 (by decide) (fun h => absurd (by decide) h) (fun _ => ?_)
            refine lv_ldc (v := (-1000000001)) hx hb hown (hts _ (zz_m 1 rfl)) dX7_lay_53 ?_
            exact zz_iret X hr hlk Z111 () (by simp [sp_lay, w53]) [] [] (by decide +kernel) rfl rfl dX7_lay_55
          · have e79 : slot = 1 := e79
            subst e79
            refine zz_v (v := 1) (by decide) ?_
            refine lv_if_eq (tgt := 53) hx hb dX7_lay_45 (by decide) (fun h => absurd h (by decide)) (fun _ => ?_)
            refine lv_iload hx hb dX7_lay_48 (lv_at hl107 0 rfl) ?_
            refine lv_if_ne (tgt := 56) hx hb dX7_lay_50 (by decide) (fun h => absurd (by decide) h) (fun _ => ?_)
            refine lv_ldc (v := (-1000000001)) hx hb hown (hts _ (zz_m 1 rfl)) dX7_lay_53 ?_
            exact zz_iret X hr hlk Z111 () (by simp [sp_lay, w53]) [] [] (by decide +kernel) rfl rfl dX7_lay_55
          · have e79 : slot = 2 := e79
            subst e79
            refine zz_v (v := 1) (by decide) ?_
            refine lv_if_eq (tgt := 53) hx hb dX7_lay_45 (by decide) (fun h => absurd h (by decide)) (fun _ => ?_)
            refine lv_iload hx hb dX7_lay_48 (lv_at hl107 0 rfl) ?_
            refine lv_if_ne (tgt := 56) hx hb dX7_lay_50 (by decide) (fun h => absurd (by decide) h) (fun _ => ?_)
            refine lv_ldc (v := (-1000000001)) hx hb hown (hts _ (zz_m 1 rfl)) dX7_lay_53 ?_
            exact zz_iret X hr hlk Z111 () (by simp [sp_lay, w53]) [] [] (by decide +kernel) rfl rfl dX7_lay_55
          · have e79 : slot = 3 := e79
            subst e79
            refine zz_v (v := 1) (by decide) ?_
            refine lv_if_eq (tgt := 53) hx hb dX7_lay_45 (by decide) (fun h => absurd h (by decide)) (fun _ => ?_)
            refine lv_iload hx hb dX7_lay_48 (lv_at hl107 0 rfl) ?_
            refine lv_if_ne (tgt := 56) hx hb dX7_lay_50 (by decide) (fun h => absurd (by decide) h) (fun _ => ?_)
            refine lv_ldc (v := (-1000000001)) hx hb hown (hts _ (zz_m 1 rfl)) dX7_lay_53 ?_
            exact zz_iret X hr hlk Z111 () (by simp [sp_lay, w53]) [] [] (by decide +kernel) rfl rfl dX7_lay_55
          · have e79 : slot = 4 := e79
            subst e79
            refine zz_v (v := 1) (by decide) ?_
            refine lv_if_eq (tgt := 53) hx hb dX7_lay_45 (by decide) (fun h => absurd h (by decide)) (fun _ => ?_)
            refine lv_iload hx hb dX7_lay_48 (lv_at hl107 0 rfl) ?_
            refine lv_if_ne (tgt := 56) hx hb dX7_lay_50 (by decide) (fun h => absurd (by decide) h) (fun _ => ?_)
            refine lv_ldc (v := (-1000000001)) hx hb hown (hts _ (zz_m 1 rfl)) dX7_lay_53 ?_
            exact zz_iret X hr hlk Z111 () (by simp [sp_lay, w53]) [] [] (by decide +kernel) rfl rfl dX7_lay_55
        · refine zz_v (v := 0) (zz_wiF w78) ?_
          refine lv_if_eq (tgt := 53) hx hb dX7_lay_45 (by decide) (fun _ => ?_) (fun h => absurd (by decide) h)
          refine lv_ldc (v := (-1000000001)) hx hb hown (hts _ (zz_m 1 rfl)) dX7_lay_53 ?_
          exact zz_iret X hr hlk Z111 () (by simp [sp_lay, w53, w78]) [] [] (by decide +kernel) rfl rfl dX7_lay_55
    · have s1 : thing = 3 := s1
      subst s1
      refine lv_iload_n hx hb dX7_lay_0 rfl (lv_at hl 2 rfl) ?_
      refine lv_if_eq (tgt := 34) hx hb dX7_lay_1 (by decide) (fun h => absurd h (by decide)) (fun _ => ?_)
      refine lv_iload_n hx hb dX7_lay_4 rfl (lv_at hl 2 rfl) ?_
      refine lv_iconst (v := 3) hx hb dX7_lay_5 (by decide) ?_
      refine lv_icmp_eq (tgt := 34) hx hb dX7_lay_6 (by decide) (fun _ => ?_) (fun h => absurd (by decide) h)
      refine lv_iconst (v := 1) hx hb dX7_lay_34 (by decide) ?_
      refine lv_goto (tgt := 39) hx hb dX7_lay_35 (by decide) ?_
      refine lv_istore (lv' := [(4, .int 1), (0, .ref mo), (1, .int slot), (2, .int 3), (3, .int k)]) hx hb dX7_lay_39 hl (by decide) rfl (fun ls112 hl113 => ?_)
      clear hl
      refine lv_iload_n hx hb dX7_lay_41 rfl (lv_at hl113 2 rfl) ?_
      refine zz_ci (WC := []) (TC := []) (WR := [(mo, .inr (7, [.ref ms, .ref mi, .ref ma, .int 0, .ref mts, .ref mtz, .ref mtn, .ref mh, .ref mhn, .ref mhw, .ref mhz, .ref mhr, .ref mcl, .ref mtp, .int 0, .int 0, .int 0, .int 0, .int 0, .int 0, .int 0, .int 0, .int 0, .int 0, .int 0, .ref mna, .ref mpi, .ref mca, .ref mwa, .int 0, .ref mrd])), (ms, .inl (kms, 3047, .inl f)), (mts, .inl (k_mts, 4, .inl tsf)), (mh, .inl (k_mh, 5, .inl hf)), (mhn, .inl (k_mhn, 5, .inl lf8)), (mhw, .inl (k_mhw, 5, .inl lf9)), (mhz, .inl (k_mhz, 5, .inl lf10)), (mhr, .inl (k_mhr, 120, .inl lf11)), (mtn, .inl (k_mtn, 96, .inl lf6)), (mtz, .inl (k_mtz, 4, .inl lf5))]) (TR := [(kms, .int), (k_mts, .int), (k_mh, .int), (k_mhn, .int), (k_mhw, .int), (k_mhz, .int), (k_mhr, .int), (k_mtn, .int), (k_mtz, .int)]) (k := 0) (n := 0) Z [] [0, 1, 2, 3, 4, 5, 6, 7, 8, 9] [] [0, 1, 2, 3, 4, 5, 6, 7, 8] rfl rfl (by decide +kernel) (by decide +kernel) (by decide +kernel) rfl rfl (fun Zc => va_runS (As := [.int slot]) (rest := []) X (c7_isSlot l D slot s.heap.size) (va_cwS 1 hts gX7_lay_X7_isSlot rfl rfl rfl zh_X7_isSlot ⟨Nat.le_of_ble_eq_true rfl, Nat.le_of_ble_eq_true rfl⟩) (zz_pS Zc) rfl rfl hl113.1 rfl (lv_room (Nat.le_of_ble_eq_true rfl)) dX7_lay_42 ⟨Nat.le_of_ble_eq_true rfl, Nat.le_of_ble_eq_true rfl⟩) rfl rfl (fun r82 u80 H114 locs115 hw81 Z116 => ?_)
      clear Z
      subst r82
      have Z117 : zz_S D A s [(mo, .inr (7, [.ref ms, .ref mi, .ref ma, .int 0, .ref mts, .ref mtz, .ref mtn, .ref mh, .ref mhn, .ref mhw, .ref mhz, .ref mhr, .ref mcl, .ref mtp, .int 0, .int 0, .int 0, .int 0, .int 0, .int 0, .int 0, .int 0, .int 0, .int 0, .int 0, .ref mna, .ref mpi, .ref mca, .ref mwa, .int 0, .ref mrd])), (ms, .inl (kms, 3047, .inl f)), (mts, .inl (k_mts, 4, .inl tsf)), (mh, .inl (k_mh, 5, .inl hf)), (mhn, .inl (k_mhn, 5, .inl lf8)), (mhw, .inl (k_mhw, 5, .inl lf9)), (mhz, .inl (k_mhz, 5, .inl lf10)), (mhr, .inl (k_mhr, 120, .inl lf11)), (mtn, .inl (k_mtn, 96, .inl lf6)), (mtz, .inl (k_mtz, 4, .inl lf5))] [(kms, .int), (k_mts, .int), (k_mh, .int), (k_mhn, .int), (k_mhw, .int), (k_mhz, .int), (k_mhr, .int), (k_mtn, .int), (k_mtz, .int)] H114 locs115 := Z116
      clear Z116
      by_cases w83 : 0 ≤ slot ∧ slot ≤ 4
      · obtain ⟨j, hj, e84⟩ := zz_rng 4 w83 (by decide)
        rcases (show j = 0 ∨ j = 1 ∨ j = 2 ∨ j = 3 ∨ j = 4 by omega) with rfl | rfl | rfl | rfl | rfl
        · have e84 : slot = 0 := e84
          subst e84
          refine zz_v (v := 1) (by decide) ?_
          refine lv_if_eq (tgt := 53) hx hb dX7_lay_45 (by decide) (fun h => absurd h (by decide)) (fun _ => ?_)
          refine lv_iload hx hb dX7_lay_48 (lv_at hl113 0 rfl) ?_
          refine lv_if_ne (tgt := 56) hx hb dX7_lay_50 (by decide) (fun _ => ?_) (fun h => absurd h (by decide))
          refine lv_iload_n hx hb dX7_lay_56 rfl (lv_at hl113 3 rfl) ?_
          refine lv_iconst (v := 2) hx hb dX7_lay_57 (by decide) ?_
          refine lv_icmp_ne (tgt := 74) hx hb dX7_lay_58 (by decide) (fun _ => ?_) (fun h => absurd h (by decide))
          refine lv_aload_n hx hb dX7_lay_74 rfl (lv_at hl113 1 rfl) ?_
          refine zz_get X Z117 0 rfl rfl (fun w h => List.mem_cons_of_mem _ (List.mem_append_right _ h)) 7 rfl (zz_m 4 rfl) rfl dX7_lay_75 ?_
          refine lv_iload_n hx hb dX7_lay_78 rfl (lv_at hl113 2 rfl) ?_
          refine zz_ild X Z117 3 2 rfl rfl (zz_in 0 5 rfl) dX7_lay_79 ?_
          refine zz_v (v := 0) ahf_0 ?_
          refine lv_istore (lv' := [(5, .int 0), (4, .int 1), (0, .ref mo), (1, .int 0), (2, .int 3), (3, .int k)]) hx hb dX7_lay_80 hl113 (by decide) rfl (fun ls118 hl119 => ?_)
          clear hl113
          refine lv_aload_n hx hb dX7_lay_82 rfl (lv_at hl119 2 rfl) ?_
          refine zz_get X Z117 0 rfl rfl (fun w h => List.mem_cons_of_mem _ (List.mem_append_right _ h)) 7 rfl (zz_m 4 rfl) rfl dX7_lay_83 ?_
          refine lv_iload_n hx hb dX7_lay_86 rfl (lv_at hl119 3 rfl) ?_
          refine lv_iload_n hx hb dX7_lay_87 rfl (lv_at hl119 4 rfl) ?_
          refine zz_istN (WS' := fun f85 => [(mo, .inr (7, [.ref ms, .ref mi, .ref ma, .int 0, .ref mts, .ref mtz, .ref mtn, .ref mh, .ref mhn, .ref mhw, .ref mhz, .ref mhr, .ref mcl, .ref mtp, .int 0, .int 0, .int 0, .int 0, .int 0, .int 0, .int 0, .int 0, .int 0, .int 0, .int 0, .ref mna, .ref mpi, .ref mca, .ref mwa, .int 0, .ref mrd])), (ms, .inl (kms, 3047, .inl f)), (mts, .inl (k_mts, 4, .inl tsf)), (mh, .inl (k_mh, 5, .inl f85)), (mhn, .inl (k_mhn, 5, .inl lf8)), (mhw, .inl (k_mhw, 5, .inl lf9)), (mhz, .inl (k_mhz, 5, .inl lf10)), (mhr, .inl (k_mhr, 120, .inl lf11)), (mtn, .inl (k_mtn, 96, .inl lf6)), (mtz, .inl (k_mtz, 4, .inl lf5))]) X Z117 3 2 rfl rfl (zz_in 0 5 rfl) dX7_lay_88 (fun _ => rfl) (fun f85 ef86 H120 locs121 Z122 => ?_)
          clear Z117
          refine lv_aload_n hx hb dX7_lay_89 rfl (lv_at hl119 2 rfl) ?_
          refine zz_get X Z122 0 rfl rfl (fun w h => List.mem_cons_of_mem _ (List.mem_append_right _ h)) 8 rfl (zz_m 5 rfl) rfl dX7_lay_90 ?_
          refine lv_iload_n hx hb dX7_lay_93 rfl (lv_at hl119 3 rfl) ?_
          refine lv_iload_n hx hb dX7_lay_94 rfl (lv_at hl119 4 rfl) ?_
          refine lv_iconst (v := 1) hx hb dX7_lay_95 (by decide) ?_
          refine lv_icmp_ne (tgt := 108) hx hb dX7_lay_96 (by decide) (fun _ => ?_) (fun h => absurd h (by decide))
          refine lv_iload_n hx hb dX7_lay_108 rfl (lv_at hl119 5 rfl) ?_
          refine zz_istN (WS' := fun f87 => [(mo, .inr (7, [.ref ms, .ref mi, .ref ma, .int 0, .ref mts, .ref mtz, .ref mtn, .ref mh, .ref mhn, .ref mhw, .ref mhz, .ref mhr, .ref mcl, .ref mtp, .int 0, .int 0, .int 0, .int 0, .int 0, .int 0, .int 0, .int 0, .int 0, .int 0, .int 0, .ref mna, .ref mpi, .ref mca, .ref mwa, .int 0, .ref mrd])), (ms, .inl (kms, 3047, .inl f)), (mts, .inl (k_mts, 4, .inl tsf)), (mh, .inl (k_mh, 5, .inl f85)), (mhn, .inl (k_mhn, 5, .inl f87)), (mhw, .inl (k_mhw, 5, .inl lf9)), (mhz, .inl (k_mhz, 5, .inl lf10)), (mhr, .inl (k_mhr, 120, .inl lf11)), (mtn, .inl (k_mtn, 96, .inl lf6)), (mtz, .inl (k_mtz, 4, .inl lf5))]) X Z122 4 3 rfl rfl (zz_in 0 5 rfl) dX7_lay_109 (fun _ => rfl) (fun f87 ef88 H123 locs124 Z125 => ?_)
          clear Z122
          refine lv_aload_n hx hb dX7_lay_110 rfl (lv_at hl119 2 rfl) ?_
          refine zz_get X Z125 0 rfl rfl (fun w h => List.mem_cons_of_mem _ (List.mem_append_right _ h)) 9 rfl (zz_m 6 rfl) rfl dX7_lay_111 ?_
          refine lv_iload_n hx hb dX7_lay_114 rfl (lv_at hl119 3 rfl) ?_
          refine lv_iload_n hx hb dX7_lay_115 rfl (lv_at hl119 4 rfl) ?_
          refine lv_iconst (v := 1) hx hb dX7_lay_116 (by decide) ?_
          refine lv_icmp_ne (tgt := 128) hx hb dX7_lay_117 (by decide) (fun _ => ?_) (fun h => absurd h (by decide))
          refine lv_iconst (v := 0) hx hb dX7_lay_128 (by decide) ?_
          refine zz_istN (WS' := fun f89 => [(mo, .inr (7, [.ref ms, .ref mi, .ref ma, .int 0, .ref mts, .ref mtz, .ref mtn, .ref mh, .ref mhn, .ref mhw, .ref mhz, .ref mhr, .ref mcl, .ref mtp, .int 0, .int 0, .int 0, .int 0, .int 0, .int 0, .int 0, .int 0, .int 0, .int 0, .int 0, .ref mna, .ref mpi, .ref mca, .ref mwa, .int 0, .ref mrd])), (ms, .inl (kms, 3047, .inl f)), (mts, .inl (k_mts, 4, .inl tsf)), (mh, .inl (k_mh, 5, .inl f85)), (mhn, .inl (k_mhn, 5, .inl f87)), (mhw, .inl (k_mhw, 5, .inl f89)), (mhz, .inl (k_mhz, 5, .inl lf10)), (mhr, .inl (k_mhr, 120, .inl lf11)), (mtn, .inl (k_mtn, 96, .inl lf6)), (mtz, .inl (k_mtz, 4, .inl lf5))]) X Z125 5 4 rfl rfl (zz_in 0 5 rfl) dX7_lay_129 (fun _ => rfl) (fun f89 ef90 H126 locs127 Z128 => ?_)
          clear Z125
          refine lv_iload_n hx hb dX7_lay_130 rfl (lv_at hl119 4 rfl) ?_
          refine lv_iconst (v := 2) hx hb dX7_lay_131 (by decide) ?_
          refine lv_icmp_ne (tgt := 187) hx hb dX7_lay_132 (by decide) (fun _ => ?_) (fun h => absurd h (by decide))
          refine lv_iload hx hb dX7_lay_187 (lv_at hl119 0 rfl) ?_
          exact zz_iret X hr hlk Z128 () (by simp [sp_lay]) [] [] (by decide +kernel) rfl rfl dX7_lay_189
        · have e84 : slot = 1 := e84
          subst e84
          refine zz_v (v := 1) (by decide) ?_
          refine lv_if_eq (tgt := 53) hx hb dX7_lay_45 (by decide) (fun h => absurd h (by decide)) (fun _ => ?_)
          refine lv_iload hx hb dX7_lay_48 (lv_at hl113 0 rfl) ?_
          refine lv_if_ne (tgt := 56) hx hb dX7_lay_50 (by decide) (fun _ => ?_) (fun h => absurd h (by decide))
          refine lv_iload_n hx hb dX7_lay_56 rfl (lv_at hl113 3 rfl) ?_
          refine lv_iconst (v := 2) hx hb dX7_lay_57 (by decide) ?_
          refine lv_icmp_ne (tgt := 74) hx hb dX7_lay_58 (by decide) (fun _ => ?_) (fun h => absurd h (by decide))
          refine lv_aload_n hx hb dX7_lay_74 rfl (lv_at hl113 1 rfl) ?_
          refine zz_get X Z117 0 rfl rfl (fun w h => List.mem_cons_of_mem _ (List.mem_append_right _ h)) 7 rfl (zz_m 4 rfl) rfl dX7_lay_75 ?_
          refine lv_iload_n hx hb dX7_lay_78 rfl (lv_at hl113 2 rfl) ?_
          refine zz_ild X Z117 3 2 rfl rfl (zz_in 1 5 rfl) dX7_lay_79 ?_
          refine zz_v (v := 0) ahf_1 ?_
          refine lv_istore (lv' := [(5, .int 0), (4, .int 1), (0, .ref mo), (1, .int 1), (2, .int 3), (3, .int k)]) hx hb dX7_lay_80 hl113 (by decide) rfl (fun ls129 hl130 => ?_)
          clear hl113
          refine lv_aload_n hx hb dX7_lay_82 rfl (lv_at hl130 2 rfl) ?_
          refine zz_get X Z117 0 rfl rfl (fun w h => List.mem_cons_of_mem _ (List.mem_append_right _ h)) 7 rfl (zz_m 4 rfl) rfl dX7_lay_83 ?_
          refine lv_iload_n hx hb dX7_lay_86 rfl (lv_at hl130 3 rfl) ?_
          refine lv_iload_n hx hb dX7_lay_87 rfl (lv_at hl130 4 rfl) ?_
          refine zz_istN (WS' := fun f91 => [(mo, .inr (7, [.ref ms, .ref mi, .ref ma, .int 0, .ref mts, .ref mtz, .ref mtn, .ref mh, .ref mhn, .ref mhw, .ref mhz, .ref mhr, .ref mcl, .ref mtp, .int 0, .int 0, .int 0, .int 0, .int 0, .int 0, .int 0, .int 0, .int 0, .int 0, .int 0, .ref mna, .ref mpi, .ref mca, .ref mwa, .int 0, .ref mrd])), (ms, .inl (kms, 3047, .inl f)), (mts, .inl (k_mts, 4, .inl tsf)), (mh, .inl (k_mh, 5, .inl f91)), (mhn, .inl (k_mhn, 5, .inl lf8)), (mhw, .inl (k_mhw, 5, .inl lf9)), (mhz, .inl (k_mhz, 5, .inl lf10)), (mhr, .inl (k_mhr, 120, .inl lf11)), (mtn, .inl (k_mtn, 96, .inl lf6)), (mtz, .inl (k_mtz, 4, .inl lf5))]) X Z117 3 2 rfl rfl (zz_in 1 5 rfl) dX7_lay_88 (fun _ => rfl) (fun f91 ef92 H131 locs132 Z133 => ?_)
          clear Z117
          refine lv_aload_n hx hb dX7_lay_89 rfl (lv_at hl130 2 rfl) ?_
          refine zz_get X Z133 0 rfl rfl (fun w h => List.mem_cons_of_mem _ (List.mem_append_right _ h)) 8 rfl (zz_m 5 rfl) rfl dX7_lay_90 ?_
          refine lv_iload_n hx hb dX7_lay_93 rfl (lv_at hl130 3 rfl) ?_
          refine lv_iload_n hx hb dX7_lay_94 rfl (lv_at hl130 4 rfl) ?_
          refine lv_iconst (v := 1) hx hb dX7_lay_95 (by decide) ?_
          refine lv_icmp_ne (tgt := 108) hx hb dX7_lay_96 (by decide) (fun _ => ?_) (fun h => absurd h (by decide))
          refine lv_iload_n hx hb dX7_lay_108 rfl (lv_at hl130 5 rfl) ?_
          refine zz_istN (WS' := fun f93 => [(mo, .inr (7, [.ref ms, .ref mi, .ref ma, .int 0, .ref mts, .ref mtz, .ref mtn, .ref mh, .ref mhn, .ref mhw, .ref mhz, .ref mhr, .ref mcl, .ref mtp, .int 0, .int 0, .int 0, .int 0, .int 0, .int 0, .int 0, .int 0, .int 0, .int 0, .int 0, .ref mna, .ref mpi, .ref mca, .ref mwa, .int 0, .ref mrd])), (ms, .inl (kms, 3047, .inl f)), (mts, .inl (k_mts, 4, .inl tsf)), (mh, .inl (k_mh, 5, .inl f91)), (mhn, .inl (k_mhn, 5, .inl f93)), (mhw, .inl (k_mhw, 5, .inl lf9)), (mhz, .inl (k_mhz, 5, .inl lf10)), (mhr, .inl (k_mhr, 120, .inl lf11)), (mtn, .inl (k_mtn, 96, .inl lf6)), (mtz, .inl (k_mtz, 4, .inl lf5))]) X Z133 4 3 rfl rfl (zz_in 1 5 rfl) dX7_lay_109 (fun _ => rfl) (fun f93 ef94 H134 locs135 Z136 => ?_)
          clear Z133
          refine lv_aload_n hx hb dX7_lay_110 rfl (lv_at hl130 2 rfl) ?_
          refine zz_get X Z136 0 rfl rfl (fun w h => List.mem_cons_of_mem _ (List.mem_append_right _ h)) 9 rfl (zz_m 6 rfl) rfl dX7_lay_111 ?_
          refine lv_iload_n hx hb dX7_lay_114 rfl (lv_at hl130 3 rfl) ?_
          refine lv_iload_n hx hb dX7_lay_115 rfl (lv_at hl130 4 rfl) ?_
          refine lv_iconst (v := 1) hx hb dX7_lay_116 (by decide) ?_
          refine lv_icmp_ne (tgt := 128) hx hb dX7_lay_117 (by decide) (fun _ => ?_) (fun h => absurd h (by decide))
          refine lv_iconst (v := 0) hx hb dX7_lay_128 (by decide) ?_
          refine zz_istN (WS' := fun f95 => [(mo, .inr (7, [.ref ms, .ref mi, .ref ma, .int 0, .ref mts, .ref mtz, .ref mtn, .ref mh, .ref mhn, .ref mhw, .ref mhz, .ref mhr, .ref mcl, .ref mtp, .int 0, .int 0, .int 0, .int 0, .int 0, .int 0, .int 0, .int 0, .int 0, .int 0, .int 0, .ref mna, .ref mpi, .ref mca, .ref mwa, .int 0, .ref mrd])), (ms, .inl (kms, 3047, .inl f)), (mts, .inl (k_mts, 4, .inl tsf)), (mh, .inl (k_mh, 5, .inl f91)), (mhn, .inl (k_mhn, 5, .inl f93)), (mhw, .inl (k_mhw, 5, .inl f95)), (mhz, .inl (k_mhz, 5, .inl lf10)), (mhr, .inl (k_mhr, 120, .inl lf11)), (mtn, .inl (k_mtn, 96, .inl lf6)), (mtz, .inl (k_mtz, 4, .inl lf5))]) X Z136 5 4 rfl rfl (zz_in 1 5 rfl) dX7_lay_129 (fun _ => rfl) (fun f95 ef96 H137 locs138 Z139 => ?_)
          clear Z136
          refine lv_iload_n hx hb dX7_lay_130 rfl (lv_at hl130 4 rfl) ?_
          refine lv_iconst (v := 2) hx hb dX7_lay_131 (by decide) ?_
          refine lv_icmp_ne (tgt := 187) hx hb dX7_lay_132 (by decide) (fun _ => ?_) (fun h => absurd h (by decide))
          refine lv_iload hx hb dX7_lay_187 (lv_at hl130 0 rfl) ?_
          exact zz_iret X hr hlk Z139 () (by simp [sp_lay]) [] [] (by decide +kernel) rfl rfl dX7_lay_189
        · have e84 : slot = 2 := e84
          subst e84
          refine zz_v (v := 1) (by decide) ?_
          refine lv_if_eq (tgt := 53) hx hb dX7_lay_45 (by decide) (fun h => absurd h (by decide)) (fun _ => ?_)
          refine lv_iload hx hb dX7_lay_48 (lv_at hl113 0 rfl) ?_
          refine lv_if_ne (tgt := 56) hx hb dX7_lay_50 (by decide) (fun _ => ?_) (fun h => absurd h (by decide))
          refine lv_iload_n hx hb dX7_lay_56 rfl (lv_at hl113 3 rfl) ?_
          refine lv_iconst (v := 2) hx hb dX7_lay_57 (by decide) ?_
          refine lv_icmp_ne (tgt := 74) hx hb dX7_lay_58 (by decide) (fun _ => ?_) (fun h => absurd h (by decide))
          refine lv_aload_n hx hb dX7_lay_74 rfl (lv_at hl113 1 rfl) ?_
          refine zz_get X Z117 0 rfl rfl (fun w h => List.mem_cons_of_mem _ (List.mem_append_right _ h)) 7 rfl (zz_m 4 rfl) rfl dX7_lay_75 ?_
          refine lv_iload_n hx hb dX7_lay_78 rfl (lv_at hl113 2 rfl) ?_
          refine zz_ild X Z117 3 2 rfl rfl (zz_in 2 5 rfl) dX7_lay_79 ?_
          refine zz_v (v := 0) ahf_2 ?_
          refine lv_istore (lv' := [(5, .int 0), (4, .int 1), (0, .ref mo), (1, .int 2), (2, .int 3), (3, .int k)]) hx hb dX7_lay_80 hl113 (by decide) rfl (fun ls140 hl141 => ?_)
          clear hl113
          refine lv_aload_n hx hb dX7_lay_82 rfl (lv_at hl141 2 rfl) ?_
          refine zz_get X Z117 0 rfl rfl (fun w h => List.mem_cons_of_mem _ (List.mem_append_right _ h)) 7 rfl (zz_m 4 rfl) rfl dX7_lay_83 ?_
          refine lv_iload_n hx hb dX7_lay_86 rfl (lv_at hl141 3 rfl) ?_
          refine lv_iload_n hx hb dX7_lay_87 rfl (lv_at hl141 4 rfl) ?_
          refine zz_istN (WS' := fun f97 => [(mo, .inr (7, [.ref ms, .ref mi, .ref ma, .int 0, .ref mts, .ref mtz, .ref mtn, .ref mh, .ref mhn, .ref mhw, .ref mhz, .ref mhr, .ref mcl, .ref mtp, .int 0, .int 0, .int 0, .int 0, .int 0, .int 0, .int 0, .int 0, .int 0, .int 0, .int 0, .ref mna, .ref mpi, .ref mca, .ref mwa, .int 0, .ref mrd])), (ms, .inl (kms, 3047, .inl f)), (mts, .inl (k_mts, 4, .inl tsf)), (mh, .inl (k_mh, 5, .inl f97)), (mhn, .inl (k_mhn, 5, .inl lf8)), (mhw, .inl (k_mhw, 5, .inl lf9)), (mhz, .inl (k_mhz, 5, .inl lf10)), (mhr, .inl (k_mhr, 120, .inl lf11)), (mtn, .inl (k_mtn, 96, .inl lf6)), (mtz, .inl (k_mtz, 4, .inl lf5))]) X Z117 3 2 rfl rfl (zz_in 2 5 rfl) dX7_lay_88 (fun _ => rfl) (fun f97 ef98 H142 locs143 Z144 => ?_)
          clear Z117
          refine lv_aload_n hx hb dX7_lay_89 rfl (lv_at hl141 2 rfl) ?_
          refine zz_get X Z144 0 rfl rfl (fun w h => List.mem_cons_of_mem _ (List.mem_append_right _ h)) 8 rfl (zz_m 5 rfl) rfl dX7_lay_90 ?_
          refine lv_iload_n hx hb dX7_lay_93 rfl (lv_at hl141 3 rfl) ?_
          refine lv_iload_n hx hb dX7_lay_94 rfl (lv_at hl141 4 rfl) ?_
          refine lv_iconst (v := 1) hx hb dX7_lay_95 (by decide) ?_
          refine lv_icmp_ne (tgt := 108) hx hb dX7_lay_96 (by decide) (fun _ => ?_) (fun h => absurd h (by decide))
          refine lv_iload_n hx hb dX7_lay_108 rfl (lv_at hl141 5 rfl) ?_
          refine zz_istN (WS' := fun f99 => [(mo, .inr (7, [.ref ms, .ref mi, .ref ma, .int 0, .ref mts, .ref mtz, .ref mtn, .ref mh, .ref mhn, .ref mhw, .ref mhz, .ref mhr, .ref mcl, .ref mtp, .int 0, .int 0, .int 0, .int 0, .int 0, .int 0, .int 0, .int 0, .int 0, .int 0, .int 0, .ref mna, .ref mpi, .ref mca, .ref mwa, .int 0, .ref mrd])), (ms, .inl (kms, 3047, .inl f)), (mts, .inl (k_mts, 4, .inl tsf)), (mh, .inl (k_mh, 5, .inl f97)), (mhn, .inl (k_mhn, 5, .inl f99)), (mhw, .inl (k_mhw, 5, .inl lf9)), (mhz, .inl (k_mhz, 5, .inl lf10)), (mhr, .inl (k_mhr, 120, .inl lf11)), (mtn, .inl (k_mtn, 96, .inl lf6)), (mtz, .inl (k_mtz, 4, .inl lf5))]) X Z144 4 3 rfl rfl (zz_in 2 5 rfl) dX7_lay_109 (fun _ => rfl) (fun f99 ef100 H145 locs146 Z147 => ?_)
          clear Z144
          refine lv_aload_n hx hb dX7_lay_110 rfl (lv_at hl141 2 rfl) ?_
          refine zz_get X Z147 0 rfl rfl (fun w h => List.mem_cons_of_mem _ (List.mem_append_right _ h)) 9 rfl (zz_m 6 rfl) rfl dX7_lay_111 ?_
          refine lv_iload_n hx hb dX7_lay_114 rfl (lv_at hl141 3 rfl) ?_
          refine lv_iload_n hx hb dX7_lay_115 rfl (lv_at hl141 4 rfl) ?_
          refine lv_iconst (v := 1) hx hb dX7_lay_116 (by decide) ?_
          refine lv_icmp_ne (tgt := 128) hx hb dX7_lay_117 (by decide) (fun _ => ?_) (fun h => absurd h (by decide))
          refine lv_iconst (v := 0) hx hb dX7_lay_128 (by decide) ?_
          refine zz_istN (WS' := fun f101 => [(mo, .inr (7, [.ref ms, .ref mi, .ref ma, .int 0, .ref mts, .ref mtz, .ref mtn, .ref mh, .ref mhn, .ref mhw, .ref mhz, .ref mhr, .ref mcl, .ref mtp, .int 0, .int 0, .int 0, .int 0, .int 0, .int 0, .int 0, .int 0, .int 0, .int 0, .int 0, .ref mna, .ref mpi, .ref mca, .ref mwa, .int 0, .ref mrd])), (ms, .inl (kms, 3047, .inl f)), (mts, .inl (k_mts, 4, .inl tsf)), (mh, .inl (k_mh, 5, .inl f97)), (mhn, .inl (k_mhn, 5, .inl f99)), (mhw, .inl (k_mhw, 5, .inl f101)), (mhz, .inl (k_mhz, 5, .inl lf10)), (mhr, .inl (k_mhr, 120, .inl lf11)), (mtn, .inl (k_mtn, 96, .inl lf6)), (mtz, .inl (k_mtz, 4, .inl lf5))]) X Z147 5 4 rfl rfl (zz_in 2 5 rfl) dX7_lay_129 (fun _ => rfl) (fun f101 ef102 H148 locs149 Z150 => ?_)
          clear Z147
          refine lv_iload_n hx hb dX7_lay_130 rfl (lv_at hl141 4 rfl) ?_
          refine lv_iconst (v := 2) hx hb dX7_lay_131 (by decide) ?_
          refine lv_icmp_ne (tgt := 187) hx hb dX7_lay_132 (by decide) (fun _ => ?_) (fun h => absurd h (by decide))
          refine lv_iload hx hb dX7_lay_187 (lv_at hl141 0 rfl) ?_
          exact zz_iret X hr hlk Z150 () (by simp [sp_lay]) [] [] (by decide +kernel) rfl rfl dX7_lay_189
        · have e84 : slot = 3 := e84
          subst e84
          refine zz_v (v := 1) (by decide) ?_
          refine lv_if_eq (tgt := 53) hx hb dX7_lay_45 (by decide) (fun h => absurd h (by decide)) (fun _ => ?_)
          refine lv_iload hx hb dX7_lay_48 (lv_at hl113 0 rfl) ?_
          refine lv_if_ne (tgt := 56) hx hb dX7_lay_50 (by decide) (fun _ => ?_) (fun h => absurd h (by decide))
          refine lv_iload_n hx hb dX7_lay_56 rfl (lv_at hl113 3 rfl) ?_
          refine lv_iconst (v := 2) hx hb dX7_lay_57 (by decide) ?_
          refine lv_icmp_ne (tgt := 74) hx hb dX7_lay_58 (by decide) (fun _ => ?_) (fun h => absurd h (by decide))
          refine lv_aload_n hx hb dX7_lay_74 rfl (lv_at hl113 1 rfl) ?_
          refine zz_get X Z117 0 rfl rfl (fun w h => List.mem_cons_of_mem _ (List.mem_append_right _ h)) 7 rfl (zz_m 4 rfl) rfl dX7_lay_75 ?_
          refine lv_iload_n hx hb dX7_lay_78 rfl (lv_at hl113 2 rfl) ?_
          refine zz_ild X Z117 3 2 rfl rfl (zz_in 3 5 rfl) dX7_lay_79 ?_
          refine zz_v (v := 0) ahf_3 ?_
          refine lv_istore (lv' := [(5, .int 0), (4, .int 1), (0, .ref mo), (1, .int 3), (2, .int 3), (3, .int k)]) hx hb dX7_lay_80 hl113 (by decide) rfl (fun ls151 hl152 => ?_)
          clear hl113
          refine lv_aload_n hx hb dX7_lay_82 rfl (lv_at hl152 2 rfl) ?_
          refine zz_get X Z117 0 rfl rfl (fun w h => List.mem_cons_of_mem _ (List.mem_append_right _ h)) 7 rfl (zz_m 4 rfl) rfl dX7_lay_83 ?_
          refine lv_iload_n hx hb dX7_lay_86 rfl (lv_at hl152 3 rfl) ?_
          refine lv_iload_n hx hb dX7_lay_87 rfl (lv_at hl152 4 rfl) ?_
          refine zz_istN (WS' := fun f103 => [(mo, .inr (7, [.ref ms, .ref mi, .ref ma, .int 0, .ref mts, .ref mtz, .ref mtn, .ref mh, .ref mhn, .ref mhw, .ref mhz, .ref mhr, .ref mcl, .ref mtp, .int 0, .int 0, .int 0, .int 0, .int 0, .int 0, .int 0, .int 0, .int 0, .int 0, .int 0, .ref mna, .ref mpi, .ref mca, .ref mwa, .int 0, .ref mrd])), (ms, .inl (kms, 3047, .inl f)), (mts, .inl (k_mts, 4, .inl tsf)), (mh, .inl (k_mh, 5, .inl f103)), (mhn, .inl (k_mhn, 5, .inl lf8)), (mhw, .inl (k_mhw, 5, .inl lf9)), (mhz, .inl (k_mhz, 5, .inl lf10)), (mhr, .inl (k_mhr, 120, .inl lf11)), (mtn, .inl (k_mtn, 96, .inl lf6)), (mtz, .inl (k_mtz, 4, .inl lf5))]) X Z117 3 2 rfl rfl (zz_in 3 5 rfl) dX7_lay_88 (fun _ => rfl) (fun f103 ef104 H153 locs154 Z155 => ?_)
          clear Z117
          refine lv_aload_n hx hb dX7_lay_89 rfl (lv_at hl152 2 rfl) ?_
          refine zz_get X Z155 0 rfl rfl (fun w h => List.mem_cons_of_mem _ (List.mem_append_right _ h)) 8 rfl (zz_m 5 rfl) rfl dX7_lay_90 ?_
          refine lv_iload_n hx hb dX7_lay_93 rfl (lv_at hl152 3 rfl) ?_
          refine lv_iload_n hx hb dX7_lay_94 rfl (lv_at hl152 4 rfl) ?_
          refine lv_iconst (v := 1) hx hb dX7_lay_95 (by decide) ?_
          refine lv_icmp_ne (tgt := 108) hx hb dX7_lay_96 (by decide) (fun _ => ?_) (fun h => absurd h (by decide))
          refine lv_iload_n hx hb dX7_lay_108 rfl (lv_at hl152 5 rfl) ?_
          refine zz_istN (WS' := fun f105 => [(mo, .inr (7, [.ref ms, .ref mi, .ref ma, .int 0, .ref mts, .ref mtz, .ref mtn, .ref mh, .ref mhn, .ref mhw, .ref mhz, .ref mhr, .ref mcl, .ref mtp, .int 0, .int 0, .int 0, .int 0, .int 0, .int 0, .int 0, .int 0, .int 0, .int 0, .int 0, .ref mna, .ref mpi, .ref mca, .ref mwa, .int 0, .ref mrd])), (ms, .inl (kms, 3047, .inl f)), (mts, .inl (k_mts, 4, .inl tsf)), (mh, .inl (k_mh, 5, .inl f103)), (mhn, .inl (k_mhn, 5, .inl f105)), (mhw, .inl (k_mhw, 5, .inl lf9)), (mhz, .inl (k_mhz, 5, .inl lf10)), (mhr, .inl (k_mhr, 120, .inl lf11)), (mtn, .inl (k_mtn, 96, .inl lf6)), (mtz, .inl (k_mtz, 4, .inl lf5))]) X Z155 4 3 rfl rfl (zz_in 3 5 rfl) dX7_lay_109 (fun _ => rfl) (fun f105 ef106 H156 locs157 Z158 => ?_)
          clear Z155
          refine lv_aload_n hx hb dX7_lay_110 rfl (lv_at hl152 2 rfl) ?_
          refine zz_get X Z158 0 rfl rfl (fun w h => List.mem_cons_of_mem _ (List.mem_append_right _ h)) 9 rfl (zz_m 6 rfl) rfl dX7_lay_111 ?_
          refine lv_iload_n hx hb dX7_lay_114 rfl (lv_at hl152 3 rfl) ?_
          refine lv_iload_n hx hb dX7_lay_115 rfl (lv_at hl152 4 rfl) ?_
          refine lv_iconst (v := 1) hx hb dX7_lay_116 (by decide) ?_
          refine lv_icmp_ne (tgt := 128) hx hb dX7_lay_117 (by decide) (fun _ => ?_) (fun h => absurd h (by decide))
          refine lv_iconst (v := 0) hx hb dX7_lay_128 (by decide) ?_
          refine zz_istN (WS' := fun f107 => [(mo, .inr (7, [.ref ms, .ref mi, .ref ma, .int 0, .ref mts, .ref mtz, .ref mtn, .ref mh, .ref mhn, .ref mhw, .ref mhz, .ref mhr, .ref mcl, .ref mtp, .int 0, .int 0, .int 0, .int 0, .int 0, .int 0, .int 0, .int 0, .int 0, .int 0, .int 0, .ref mna, .ref mpi, .ref mca, .ref mwa, .int 0, .ref mrd])), (ms, .inl (kms, 3047, .inl f)), (mts, .inl (k_mts, 4, .inl tsf)), (mh, .inl (k_mh, 5, .inl f103)), (mhn, .inl (k_mhn, 5, .inl f105)), (mhw, .inl (k_mhw, 5, .inl f107)), (mhz, .inl (k_mhz, 5, .inl lf10)), (mhr, .inl (k_mhr, 120, .inl lf11)), (mtn, .inl (k_mtn, 96, .inl lf6)), (mtz, .inl (k_mtz, 4, .inl lf5))]) X Z158 5 4 rfl rfl (zz_in 3 5 rfl) dX7_lay_129 (fun _ => rfl) (fun f107 ef108 H159 locs160 Z161 => ?_)
          clear Z158
          refine lv_iload_n hx hb dX7_lay_130 rfl (lv_at hl152 4 rfl) ?_
          refine lv_iconst (v := 2) hx hb dX7_lay_131 (by decide) ?_
          refine lv_icmp_ne (tgt := 187) hx hb dX7_lay_132 (by decide) (fun _ => ?_) (fun h => absurd h (by decide))
          refine lv_iload hx hb dX7_lay_187 (lv_at hl152 0 rfl) ?_
          exact zz_iret X hr hlk Z161 () (by simp [sp_lay]) [] [] (by decide +kernel) rfl rfl dX7_lay_189
        · have e84 : slot = 4 := e84
          subst e84
          refine zz_v (v := 1) (by decide) ?_
          refine lv_if_eq (tgt := 53) hx hb dX7_lay_45 (by decide) (fun h => absurd h (by decide)) (fun _ => ?_)
          refine lv_iload hx hb dX7_lay_48 (lv_at hl113 0 rfl) ?_
          refine lv_if_ne (tgt := 56) hx hb dX7_lay_50 (by decide) (fun _ => ?_) (fun h => absurd h (by decide))
          refine lv_iload_n hx hb dX7_lay_56 rfl (lv_at hl113 3 rfl) ?_
          refine lv_iconst (v := 2) hx hb dX7_lay_57 (by decide) ?_
          refine lv_icmp_ne (tgt := 74) hx hb dX7_lay_58 (by decide) (fun _ => ?_) (fun h => absurd h (by decide))
          refine lv_aload_n hx hb dX7_lay_74 rfl (lv_at hl113 1 rfl) ?_
          refine zz_get X Z117 0 rfl rfl (fun w h => List.mem_cons_of_mem _ (List.mem_append_right _ h)) 7 rfl (zz_m 4 rfl) rfl dX7_lay_75 ?_
          refine lv_iload_n hx hb dX7_lay_78 rfl (lv_at hl113 2 rfl) ?_
          refine zz_ild X Z117 3 2 rfl rfl (zz_in 4 5 rfl) dX7_lay_79 ?_
          refine zz_v (v := 0) ahf_4 ?_
          refine lv_istore (lv' := [(5, .int 0), (4, .int 1), (0, .ref mo), (1, .int 4), (2, .int 3), (3, .int k)]) hx hb dX7_lay_80 hl113 (by decide) rfl (fun ls162 hl163 => ?_)
          clear hl113
          refine lv_aload_n hx hb dX7_lay_82 rfl (lv_at hl163 2 rfl) ?_
          refine zz_get X Z117 0 rfl rfl (fun w h => List.mem_cons_of_mem _ (List.mem_append_right _ h)) 7 rfl (zz_m 4 rfl) rfl dX7_lay_83 ?_
          refine lv_iload_n hx hb dX7_lay_86 rfl (lv_at hl163 3 rfl) ?_
          refine lv_iload_n hx hb dX7_lay_87 rfl (lv_at hl163 4 rfl) ?_
          refine zz_istN (WS' := fun f109 => [(mo, .inr (7, [.ref ms, .ref mi, .ref ma, .int 0, .ref mts, .ref mtz, .ref mtn, .ref mh, .ref mhn, .ref mhw, .ref mhz, .ref mhr, .ref mcl, .ref mtp, .int 0, .int 0, .int 0, .int 0, .int 0, .int 0, .int 0, .int 0, .int 0, .int 0, .int 0, .ref mna, .ref mpi, .ref mca, .ref mwa, .int 0, .ref mrd])), (ms, .inl (kms, 3047, .inl f)), (mts, .inl (k_mts, 4, .inl tsf)), (mh, .inl (k_mh, 5, .inl f109)), (mhn, .inl (k_mhn, 5, .inl lf8)), (mhw, .inl (k_mhw, 5, .inl lf9)), (mhz, .inl (k_mhz, 5, .inl lf10)), (mhr, .inl (k_mhr, 120, .inl lf11)), (mtn, .inl (k_mtn, 96, .inl lf6)), (mtz, .inl (k_mtz, 4, .inl lf5))]) X Z117 3 2 rfl rfl (zz_in 4 5 rfl) dX7_lay_88 (fun _ => rfl) (fun f109 ef110 H164 locs165 Z166 => ?_)
          clear Z117
          refine lv_aload_n hx hb dX7_lay_89 rfl (lv_at hl163 2 rfl) ?_
          refine zz_get X Z166 0 rfl rfl (fun w h => List.mem_cons_of_mem _ (List.mem_append_right _ h)) 8 rfl (zz_m 5 rfl) rfl dX7_lay_90 ?_
          refine lv_iload_n hx hb dX7_lay_93 rfl (lv_at hl163 3 rfl) ?_
          refine lv_iload_n hx hb dX7_lay_94 rfl (lv_at hl163 4 rfl) ?_
          refine lv_iconst (v := 1) hx hb dX7_lay_95 (by decide) ?_
          refine lv_icmp_ne (tgt := 108) hx hb dX7_lay_96 (by decide) (fun _ => ?_) (fun h => absurd h (by decide))
          refine lv_iload_n hx hb dX7_lay_108 rfl (lv_at hl163 5 rfl) ?_
          refine zz_istN (WS' := fun f111 => [(mo, .inr (7, [.ref ms, .ref mi, .ref ma, .int 0, .ref mts, .ref mtz, .ref mtn, .ref mh, .ref mhn, .ref mhw, .ref mhz, .ref mhr, .ref mcl, .ref mtp, .int 0, .int 0, .int 0, .int 0, .int 0, .int 0, .int 0, .int 0, .int 0, .int 0, .int 0, .ref mna, .ref mpi, .ref mca, .ref mwa, .int 0, .ref mrd])), (ms, .inl (kms, 3047, .inl f)), (mts, .inl (k_mts, 4, .inl tsf)), (mh, .inl (k_mh, 5, .inl f109)), (mhn, .inl (k_mhn, 5, .inl f111)), (mhw, .inl (k_mhw, 5, .inl lf9)), (mhz, .inl (k_mhz, 5, .inl lf10)), (mhr, .inl (k_mhr, 120, .inl lf11)), (mtn, .inl (k_mtn, 96, .inl lf6)), (mtz, .inl (k_mtz, 4, .inl lf5))]) X Z166 4 3 rfl rfl (zz_in 4 5 rfl) dX7_lay_109 (fun _ => rfl) (fun f111 ef112 H167 locs168 Z169 => ?_)
          clear Z166
          refine lv_aload_n hx hb dX7_lay_110 rfl (lv_at hl163 2 rfl) ?_
          refine zz_get X Z169 0 rfl rfl (fun w h => List.mem_cons_of_mem _ (List.mem_append_right _ h)) 9 rfl (zz_m 6 rfl) rfl dX7_lay_111 ?_
          refine lv_iload_n hx hb dX7_lay_114 rfl (lv_at hl163 3 rfl) ?_
          refine lv_iload_n hx hb dX7_lay_115 rfl (lv_at hl163 4 rfl) ?_
          refine lv_iconst (v := 1) hx hb dX7_lay_116 (by decide) ?_
          refine lv_icmp_ne (tgt := 128) hx hb dX7_lay_117 (by decide) (fun _ => ?_) (fun h => absurd h (by decide))
          refine lv_iconst (v := 0) hx hb dX7_lay_128 (by decide) ?_
          refine zz_istN (WS' := fun f113 => [(mo, .inr (7, [.ref ms, .ref mi, .ref ma, .int 0, .ref mts, .ref mtz, .ref mtn, .ref mh, .ref mhn, .ref mhw, .ref mhz, .ref mhr, .ref mcl, .ref mtp, .int 0, .int 0, .int 0, .int 0, .int 0, .int 0, .int 0, .int 0, .int 0, .int 0, .int 0, .ref mna, .ref mpi, .ref mca, .ref mwa, .int 0, .ref mrd])), (ms, .inl (kms, 3047, .inl f)), (mts, .inl (k_mts, 4, .inl tsf)), (mh, .inl (k_mh, 5, .inl f109)), (mhn, .inl (k_mhn, 5, .inl f111)), (mhw, .inl (k_mhw, 5, .inl f113)), (mhz, .inl (k_mhz, 5, .inl lf10)), (mhr, .inl (k_mhr, 120, .inl lf11)), (mtn, .inl (k_mtn, 96, .inl lf6)), (mtz, .inl (k_mtz, 4, .inl lf5))]) X Z169 5 4 rfl rfl (zz_in 4 5 rfl) dX7_lay_129 (fun _ => rfl) (fun f113 ef114 H170 locs171 Z172 => ?_)
          clear Z169
          refine lv_iload_n hx hb dX7_lay_130 rfl (lv_at hl163 4 rfl) ?_
          refine lv_iconst (v := 2) hx hb dX7_lay_131 (by decide) ?_
          refine lv_icmp_ne (tgt := 187) hx hb dX7_lay_132 (by decide) (fun _ => ?_) (fun h => absurd h (by decide))
          refine lv_iload hx hb dX7_lay_187 (lv_at hl163 0 rfl) ?_
          exact zz_iret X hr hlk Z172 () (by simp [sp_lay]) [] [] (by decide +kernel) rfl rfl dX7_lay_189
      · refine zz_v (v := 0) (zz_wiF w83) ?_
        refine lv_if_eq (tgt := 53) hx hb dX7_lay_45 (by decide) (fun _ => ?_) (fun h => absurd (by decide) h)
        refine lv_ldc (v := (-1000000001)) hx hb hown (hts _ (zz_m 1 rfl)) dX7_lay_53 ?_
        exact zz_iret X hr hlk Z117 () (by simp [sp_lay, w83]) [] [] (by decide +kernel) rfl rfl dX7_lay_55

set_option maxHeartbeats 4000000 in
set_option maxRecDepth 100000 in
theorem c7_rule (l : Launch) (D : va_G) (mo : Nat) (ms : Nat) (mi : Nat) (ma : Nat) (mts : Nat) (mtz : Nat) (mtn : Nat) (mh : Nat) (mhn : Nat) (mhw : Nat) (mhz : Nat) (mhr : Nat) (mcl : Nat) (mtp : Nat) (mna : Nat) (mpi : Nat) (mca : Nat) (mwa : Nat) (mrd : Nat) (kms : ClassId) (f : (Nat → Int32)) (what : Int32) (v : Int32) (af_0 : f 0 = 0) (af_1 : f 1 = 0) (af_2 : f 2 = 0) (af_3 : f 3 = 0) (af_4 : f 4 = 0) (af_5 : f 5 = 0) (af_6 : f 6 = 1) (af_7 : f 7 = 0) (af_8 : f 8 = 3) (af_9 : f 9 = 10) (af_10 : f 10 = 0) : zz_MI l yX7_rule wsX7_rule 2 41 0 0 D [.ref mo, .int what, .int v] [(mo, .inr (7, [.ref ms, .ref mi, .ref ma, .int 0, .ref mts, .ref mtz, .ref mtn, .ref mh, .ref mhn, .ref mhw, .ref mhz, .ref mhr, .ref mcl, .ref mtp, .int 0, .int 0, .int 0, .int 0, .int 0, .int 0, .int 0, .int 0, .int 0, .int 0, .int 0, .ref mna, .ref mpi, .ref mca, .ref mwa, .int 0, .ref mrd])), (ms, .inl (kms, 3047, .inl f))] [(kms, .int)] (fun (r : Int32) (u : Unit) => r = sp_rule what v) (fun (u : Unit) => []) (fun (u : Unit) => []) := by
  intro sz
  refine Met.ofW (cc := cX7_rule) (maxL := 4) (ret := (some .int)) (by decide) rfl ?_
  intro p e s m args below meth c s₁ B hml hv
  obtain ⟨rfl, hC⟩ := hv
  have hx := B.exec
  have hb := B.bytes
  have hr := B.returns
  have hts := atoms_spec (ws := wsX7_rule) B.pre
  have hown : s.vm.findClass RX7 = some m.cls := findClass_of_methodNamed B.named
  have hlk := B.notSynchronized
  have X : CallFix p m c cX7_rule 4 s _ wsX7_rule RX7 := ⟨hx, hb, hml, hown, hts⟩
  have Z := zz_enter hC
  generalize va_A [(mo, .inr (7, [.ref ms, .ref mi, .ref ma, .int 0, .ref mts, .ref mtz, .ref mtn, .ref mh, .ref mhn, .ref mhw, .ref mhz, .ref mhr, .ref mcl, .ref mtp, .int 0, .int 0, .int 0, .int 0, .int 0, .int 0, .int 0, .int 0, .int 0, .int 0, .int 0, .ref mna, .ref mpi, .ref mca, .ref mwa, .int 0, .ref mrd])), (ms, .inl (kms, 3047, .inl f))] sz = A at Z ⊢
  have hl := lv_entry ([.ref mo, .int what, .int v]) (n := 4) (Nat.le_of_ble_eq_true rfl)
  rw [lg_entry_eq]
  generalize (lg_sl ([.ref mo, .int what, .int v]) ++ List.replicate (4 - (lg_sl ([.ref mo, .int what, .int v])).length) Slot.unset).toArray = ls at hl ⊢
  have hl : lv_has ls 4 [(0, .ref mo), (1, .int what), (2, .int v)] := hl
  rcases zz_sw 3 what with s1 | ⟨j, hj, s1⟩
  · refine lv_iload_n hx hb dX7_rule_0 rfl (lv_at hl 1 rfl) ?_
    refine lv_i2l (v := Int32.toInt64 what) hx hb dX7_rule_1 rfl ?_
    refine lv_lconst (v := 0) hx hb dX7_rule_2 (by decide) ?_
    refine zz_vl (v := Int32.toInt64 0) (by decide) ?_
    refine lv_ldc2 (v := 3) hx hb hown (hts _ (zz_m 1 rfl)) dX7_rule_3 ?_
    refine zz_vl (v := Int32.toInt64 3) (by decide) ?_
    refine zz_ci (WC := []) (TC := []) (WR := [(mo, .inr (7, [.ref ms, .ref mi, .ref ma, .int 0, .ref mts, .ref mtz, .ref mtn, .ref mh, .ref mhn, .ref mhw, .ref mhz, .ref mhr, .ref mcl, .ref mtp, .int 0, .int 0, .int 0, .int 0, .int 0, .int 0, .int 0, .int 0, .int 0, .int 0, .int 0, .ref mna, .ref mpi, .ref mca, .ref mwa, .int 0, .ref mrd])), (ms, .inl (kms, 3047, .inl f))]) (TR := [(kms, .int)]) (k := 0) (n := 0) Z [] [0, 1] [] [0] rfl rfl (by decide +kernel) (by decide +kernel) (by decide +kernel) rfl rfl (fun Zc => va_runS (As := [.long (Int32.toInt64 what), .long (Int32.toInt64 0), .long (Int32.toInt64 3)]) (rest := []) X (c_isIn l D what 0 3 s.heap.size) (va_cwS 3 hts gX7_rule_X7_isIn rfl rfl rfl zh_X7_isIn ⟨Nat.le_of_ble_eq_true rfl, Nat.le_of_ble_eq_true rfl⟩) (zz_pS Zc) rfl rfl hl.1 rfl (lv_room (Nat.le_of_ble_eq_true rfl)) dX7_rule_6 ⟨Nat.le_of_ble_eq_true rfl, Nat.le_of_ble_eq_true rfl⟩) rfl rfl (fun r4 u2 H1 locs2 hw3 Z3 => ?_)
    clear Z
    subst r4
    have Z4 : zz_S D A s [(mo, .inr (7, [.ref ms, .ref mi, .ref ma, .int 0, .ref mts, .ref mtz, .ref mtn, .ref mh, .ref mhn, .ref mhw, .ref mhz, .ref mhr, .ref mcl, .ref mtp, .int 0, .int 0, .int 0, .int 0, .int 0, .int 0, .int 0, .int 0, .int 0, .int 0, .int 0, .ref mna, .ref mpi, .ref mca, .ref mwa, .int 0, .ref mrd])), (ms, .inl (kms, 3047, .inl f))] [(kms, .int)] H1 locs2 := Z3
    clear Z3
    refine zz_v (v := 0) (zz_wiF (zz_swr s1 (by decide))) ?_
    refine lv_if_eq (tgt := 36) hx hb dX7_rule_9 (by decide) (fun _ => ?_) (fun h => absurd (by decide) h)
    refine lv_ldc (v := (-1000000001)) hx hb hown (hts _ (zz_m 2 rfl)) dX7_rule_36 ?_
    exact zz_iret X hr hlk Z4 () (if_pos s1).symm [] [] (by decide +kernel) rfl rfl dX7_rule_38
  · rcases (show j = 0 ∨ j = 1 ∨ j = 2 ∨ j = 3 by omega) with rfl | rfl | rfl | rfl
    · have s1 : what = 0 := s1
      subst s1
      refine lv_iload_n hx hb dX7_rule_0 rfl (lv_at hl 1 rfl) ?_
      refine lv_i2l (v := Int32.toInt64 0) hx hb dX7_rule_1 rfl ?_
      refine lv_lconst (v := 0) hx hb dX7_rule_2 (by decide) ?_
      refine zz_vl (v := Int32.toInt64 0) (by decide) ?_
      refine lv_ldc2 (v := 3) hx hb hown (hts _ (zz_m 1 rfl)) dX7_rule_3 ?_
      refine zz_vl (v := Int32.toInt64 3) (by decide) ?_
      refine zz_ci (WC := []) (TC := []) (WR := [(mo, .inr (7, [.ref ms, .ref mi, .ref ma, .int 0, .ref mts, .ref mtz, .ref mtn, .ref mh, .ref mhn, .ref mhw, .ref mhz, .ref mhr, .ref mcl, .ref mtp, .int 0, .int 0, .int 0, .int 0, .int 0, .int 0, .int 0, .int 0, .int 0, .int 0, .int 0, .ref mna, .ref mpi, .ref mca, .ref mwa, .int 0, .ref mrd])), (ms, .inl (kms, 3047, .inl f))]) (TR := [(kms, .int)]) (k := 0) (n := 0) Z [] [0, 1] [] [0] rfl rfl (by decide +kernel) (by decide +kernel) (by decide +kernel) rfl rfl (fun Zc => va_runS (As := [.long (Int32.toInt64 0), .long (Int32.toInt64 0), .long (Int32.toInt64 3)]) (rest := []) X (c_isIn l D 0 0 3 s.heap.size) (va_cwS 3 hts gX7_rule_X7_isIn rfl rfl rfl zh_X7_isIn ⟨Nat.le_of_ble_eq_true rfl, Nat.le_of_ble_eq_true rfl⟩) (zz_pS Zc) rfl rfl hl.1 rfl (lv_room (Nat.le_of_ble_eq_true rfl)) dX7_rule_6 ⟨Nat.le_of_ble_eq_true rfl, Nat.le_of_ble_eq_true rfl⟩) rfl rfl (fun r7 u5 H5 locs6 hw6 Z7 => ?_)
      clear Z
      subst r7
      have Z8 : zz_S D A s [(mo, .inr (7, [.ref ms, .ref mi, .ref ma, .int 0, .ref mts, .ref mtz, .ref mtn, .ref mh, .ref mhn, .ref mhw, .ref mhz, .ref mhr, .ref mcl, .ref mtp, .int 0, .int 0, .int 0, .int 0, .int 0, .int 0, .int 0, .int 0, .int 0, .int 0, .int 0, .ref mna, .ref mpi, .ref mca, .ref mwa, .int 0, .ref mrd])), (ms, .inl (kms, 3047, .inl f))] [(kms, .int)] H5 locs6 := Z7
      clear Z7
      refine zz_v (v := 1) (by decide) ?_
      refine lv_if_eq (tgt := 36) hx hb dX7_rule_9 (by decide) (fun h => absurd h (by decide)) (fun _ => ?_)
      refine lv_iload_n hx hb dX7_rule_12 rfl (lv_at hl 2 rfl) ?_
      refine lv_i2l (v := Int32.toInt64 v) hx hb dX7_rule_13 rfl ?_
      refine lv_iload_n hx hb dX7_rule_14 rfl (lv_at hl 1 rfl) ?_
      refine lv_iconst (v := 1) hx hb dX7_rule_15 (by decide) ?_
      refine lv_icmp_ne (tgt := 23) hx hb dX7_rule_16 (by decide) (fun _ => ?_) (fun h => absurd h (by decide))
      refine lv_lconst (v := 0) hx hb dX7_rule_23 (by decide) ?_
      refine zz_vl (v := Int32.toInt64 0) (by decide) ?_
      refine lv_aload_n hx hb dX7_rule_24 rfl (lv_at hl 0 rfl) ?_
      refine lv_iload_n hx hb dX7_rule_25 rfl (lv_at hl 1 rfl) ?_
      refine zz_ci (WC := [(mo, .inr (7, [.ref ms, .ref mi, .ref ma, .int 0, .ref mts, .ref mtz, .ref mtn, .ref mh, .ref mhn, .ref mhw, .ref mhz, .ref mhr, .ref mcl, .ref mtp, .int 0, .int 0, .int 0, .int 0, .int 0, .int 0, .int 0, .int 0, .int 0, .int 0, .int 0, .ref mna, .ref mpi, .ref mca, .ref mwa, .int 0, .ref mrd])), (ms, .inl (kms, 3047, .inl f))]) (TC := [(kms, .int)]) (WR := []) (TR := []) (k := 0) (n := 0) Z8 [0, 1] [] [0] [] rfl rfl (by decide +kernel) (by decide +kernel) (by decide +kernel) rfl rfl (fun Zc => va_runV (As := [.int 0]) (rest := [.long (Int32.toInt64 0), .long (Int32.toInt64 v)]) X (c7_mostOf0 l D mo ms mi ma mts mtz mtn mh mhn mhw mhz mhr mcl mtp mna mpi mca mwa mrd 0 0 0 0 0 0 0 0 0 0 0 0 0 kms f af_0 af_1 af_2 af_3 af_4 af_5 af_6 af_7 af_8 af_9 af_10 H5.size) (cwV 1 hts gX7_rule_X7_mostOf rfl rfl rfl ⟨rfl, zh_X7_mostOf⟩ ⟨Nat.le_of_ble_eq_true rfl, Nat.le_of_ble_eq_true rfl⟩) (zz_pV (ci := 7) Zc 0 rfl rfl) rfl rfl hl.1 rfl (lv_room (Nat.le_of_ble_eq_true rfl)) dX7_rule_26 ⟨Nat.le_of_ble_eq_true rfl, Nat.le_of_ble_eq_true rfl⟩) rfl rfl (fun r10 u8 H9 locs10 hw9 Z11 => ?_)
      clear Z8
      have hw9 : r10 = 9 := hw9.trans (by decide)
      subst r10
      have Z12 : zz_S D A s [(mo, .inr (7, [.ref ms, .ref mi, .ref ma, .int 0, .ref mts, .ref mtz, .ref mtn, .ref mh, .ref mhn, .ref mhw, .ref mhz, .ref mhr, .ref mcl, .ref mtp, .int 0, .int 0, .int 0, .int 0, .int 0, .int 0, .int 0, .int 0, .int 0, .int 0, .int 0, .ref mna, .ref mpi, .ref mca, .ref mwa, .int 0, .ref mrd])), (ms, .inl (kms, 3047, .inl f))] [(kms, .int)] H9 locs10 := Z11
      clear Z11
      refine lv_i2l (v := Int32.toInt64 9) hx hb dX7_rule_29 rfl ?_
      refine zz_ci (WC := []) (TC := []) (WR := [(mo, .inr (7, [.ref ms, .ref mi, .ref ma, .int 0, .ref mts, .ref mtz, .ref mtn, .ref mh, .ref mhn, .ref mhw, .ref mhz, .ref mhr, .ref mcl, .ref mtp, .int 0, .int 0, .int 0, .int 0, .int 0, .int 0, .int 0, .int 0, .int 0, .int 0, .int 0, .ref mna, .ref mpi, .ref mca, .ref mwa, .int 0, .ref mrd])), (ms, .inl (kms, 3047, .inl f))]) (TR := [(kms, .int)]) (k := 0) (n := 0) Z12 [] [0, 1] [] [0] rfl rfl (by decide +kernel) (by decide +kernel) (by decide +kernel) rfl rfl (fun Zc => va_runS (As := [.long (Int32.toInt64 v), .long (Int32.toInt64 0), .long (Int32.toInt64 9)]) (rest := []) X (c_isIn l D v 0 9 H9.size) (va_cwS 3 hts gX7_rule_X7_isIn rfl rfl rfl zh_X7_isIn ⟨Nat.le_of_ble_eq_true rfl, Nat.le_of_ble_eq_true rfl⟩) (zz_pS Zc) rfl rfl hl.1 rfl (lv_room (Nat.le_of_ble_eq_true rfl)) dX7_rule_30 ⟨Nat.le_of_ble_eq_true rfl, Nat.le_of_ble_eq_true rfl⟩) rfl rfl (fun r13 u11 H13 locs14 hw12 Z15 => ?_)
      clear Z12
      subst r13
      have Z16 : zz_S D A s [(mo, .inr (7, [.ref ms, .ref mi, .ref ma, .int 0, .ref mts, .ref mtz, .ref mtn, .ref mh, .ref mhn, .ref mhw, .ref mhz, .ref mhr, .ref mcl, .ref mtp, .int 0, .int 0, .int 0, .int 0, .int 0, .int 0, .int 0, .int 0, .int 0, .int 0, .int 0, .ref mna, .ref mpi, .ref mca, .ref mwa, .int 0, .ref mrd])), (ms, .inl (kms, 3047, .inl f))] [(kms, .int)] H13 locs14 := Z15
      clear Z15
      by_cases w14 : 0 ≤ v ∧ v ≤ 9
      · refine zz_v (v := 1) (zz_wiT w14) ?_
        refine lv_if_ne (tgt := 39) hx hb dX7_rule_33 (by decide) (fun _ => ?_) (fun h => absurd h (by decide))
        refine lv_aload_n hx hb dX7_rule_39 rfl (lv_at hl 0 rfl) ?_
        refine lv_bipush (v := 7) hx hb dX7_rule_40 (by decide) ?_
        refine lv_iload_n hx hb dX7_rule_42 rfl (lv_at hl 1 rfl) ?_
        refine lv_iadd hx hb dX7_rule_43 ?_
        refine zz_v (v := 7) (by decide) ?_
        refine lv_iload_n hx hb dX7_rule_44 rfl (lv_at hl 2 rfl) ?_
        refine zz_ci (WC := [(mo, .inr (7, [.ref ms, .ref mi, .ref ma, .int 0, .ref mts, .ref mtz, .ref mtn, .ref mh, .ref mhn, .ref mhw, .ref mhz, .ref mhr, .ref mcl, .ref mtp, .int 0, .int 0, .int 0, .int 0, .int 0, .int 0, .int 0, .int 0, .int 0, .int 0, .int 0, .ref mna, .ref mpi, .ref mca, .ref mwa, .int 0, .ref mrd])), (ms, .inl (kms, 3047, .inl f))]) (TC := [(kms, .int)]) (WR := []) (TR := []) (k := 0) (n := 0) Z16 [0, 1] [] [0] [] rfl rfl (by decide +kernel) (by decide +kernel) (by decide +kernel) rfl rfl (fun Zc => va_runV (As := [.int 7, .int v]) (rest := []) X (c7_becomes7 l D mo ms mi ma mts mtz mtn mh mhn mhw mhz mhr mcl mtp mna mpi mca mwa mrd 0 0 0 0 0 0 0 0 0 0 0 0 0 kms f 0 0 0 0 0 0 1 0 3 10 0 v af_0 af_1 af_2 af_3 af_4 af_5 af_6 af_7 af_8 af_9 af_10 H13.size) (cwV 2 hts gX7_rule_X7_becomes rfl rfl rfl ⟨rfl, zh_X7_becomes⟩ ⟨Nat.le_of_ble_eq_true rfl, Nat.le_of_ble_eq_true rfl⟩) (zz_pV (ci := 7) Zc 0 rfl rfl) rfl rfl hl.1 rfl (lv_room (Nat.le_of_ble_eq_true rfl)) dX7_rule_45 ⟨Nat.le_of_ble_eq_true rfl, Nat.le_of_ble_eq_true rfl⟩) rfl rfl (fun r17 u15 H17 locs18 hw16 Z19 => ?_)
        clear Z16
        obtain ⟨f918, rfl⟩ : ∃ z, z = u15 := ⟨_, rfl⟩
        try dsimp only at hw16 Z19
        obtain ⟨⟨p19, p20, p21, p22, p23, p24, p25, p26, p27, p28, p29⟩, hx30⟩ := hw16
        have hx30 : r17 = 0 := hx30.trans (by decide)
        subst r17
        have Z20 : zz_S D A s [(mo, .inr (7, [.ref ms, .ref mi, .ref ma, .int 0, .ref mts, .ref mtz, .ref mtn, .ref mh, .ref mhn, .ref mhw, .ref mhz, .ref mhr, .ref mcl, .ref mtp, .int 0, .int 0, .int 0, .int 0, .int 0, .int 0, .int 0, .int 0, .int 0, .int 0, .int 0, .ref mna, .ref mpi, .ref mca, .ref mwa, .int 0, .ref mrd])), (ms, .inl (kms, 3047, .inl f918))] [(kms, .int)] H17 locs18 := Z19
        clear Z19
        refine lv_istore_n (lv' := [(3, .int 0), (0, .ref mo), (1, .int 0), (2, .int v)]) hx hb dX7_rule_48 rfl hl (by decide) rfl (fun ls21 hl22 => ?_)
        clear hl
        refine lv_aload_n hx hb dX7_rule_49 rfl (lv_at hl22 1 rfl) ?_
        refine zz_cv (WC := [(mo, .inr (7, [.ref ms, .ref mi, .ref ma, .int 0, .ref mts, .ref mtz, .ref mtn, .ref mh, .ref mhn, .ref mhw, .ref mhz, .ref mhr, .ref mcl, .ref mtp, .int 0, .int 0, .int 0, .int 0, .int 0, .int 0, .int 0, .int 0, .int 0, .int 0, .int 0, .ref mna, .ref mpi, .ref mca, .ref mwa, .int 0, .ref mrd])), (ms, .inl (kms, 3047, .inl f918))]) (TC := [(kms, .int)]) (WR := []) (TR := []) (k := 0) (n := 0) Z20 [0, 1] [] [0] [] rfl rfl (by decide +kernel) (by decide +kernel) (by decide +kernel) rfl rfl (fun Zc => va_runV (As := []) (rest := []) X (c7_holds l D mo ms mi ma mts mtz mtn mh mhn mhw mhz mhr mcl mtp mna mpi mca mwa mrd 0 0 0 0 0 0 0 0 0 0 0 0 0 kms f918 0 0 0 0 0 0 1 v 3 10 0 p19 p20 p21 p22 p23 p24 p25 p26 p27 p28 p29 H17.size) (cwV 0 hts gX7_rule_X7_holds rfl rfl rfl ⟨rfl, zh_X7_holds⟩ ⟨Nat.le_of_ble_eq_true rfl, Nat.le_of_ble_eq_true rfl⟩) (zz_pV (ci := 7) Zc 0 rfl rfl) rfl rfl hl22.1 rfl (lv_room (Nat.le_of_ble_eq_true rfl)) dX7_rule_50 ⟨Nat.le_of_ble_eq_true rfl, Nat.le_of_ble_eq_true rfl⟩) rfl rfl (fun u31 H23 locs24 hw32 Z25 => ?_)
        clear Z20
        obtain ⟨f934, rfl⟩ : ∃ z, z = u31 := ⟨_, rfl⟩
        try dsimp only at hw32 Z25
        obtain ⟨⟨p35, p36, p37, p38, p39, p40, p41, p42, p43, p44, p45⟩, hx46⟩ := hw32
        have Z26 : zz_S D A s [(mo, .inr (7, [.ref ms, .ref mi, .ref ma, .int 0, .ref mts, .ref mtz, .ref mtn, .ref mh, .ref mhn, .ref mhw, .ref mhz, .ref mhr, .ref mcl, .ref mtp, .int 0, .int 0, .int 0, .int 0, .int 0, .int 0, .int 0, .int 0, .int 0, .int 0, .int 0, .ref mna, .ref mpi, .ref mca, .ref mwa, .int 0, .ref mrd])), (ms, .inl (kms, 3047, .inl f934))] [(kms, .int)] H23 locs24 := Z25
        clear Z25
        refine lv_iload_n hx hb dX7_rule_53 rfl (lv_at hl22 0 rfl) ?_
        exact zz_iret X hr hlk Z26 () (if_pos w14).symm [] [] (by decide +kernel) rfl rfl dX7_rule_54
      · refine zz_v (v := 0) (zz_wiF w14) ?_
        refine lv_if_ne (tgt := 39) hx hb dX7_rule_33 (by decide) (fun h => absurd (by decide) h) (fun _ => ?_)
        refine lv_ldc (v := (-1000000001)) hx hb hown (hts _ (zz_m 2 rfl)) dX7_rule_36 ?_
        exact zz_iret X hr hlk Z16 () (if_neg w14).symm [] [] (by decide +kernel) rfl rfl dX7_rule_38
    · have s1 : what = 1 := s1
      subst s1
      refine lv_iload_n hx hb dX7_rule_0 rfl (lv_at hl 1 rfl) ?_
      refine lv_i2l (v := Int32.toInt64 1) hx hb dX7_rule_1 rfl ?_
      refine lv_lconst (v := 0) hx hb dX7_rule_2 (by decide) ?_
      refine zz_vl (v := Int32.toInt64 0) (by decide) ?_
      refine lv_ldc2 (v := 3) hx hb hown (hts _ (zz_m 1 rfl)) dX7_rule_3 ?_
      refine zz_vl (v := Int32.toInt64 3) (by decide) ?_
      refine zz_ci (WC := []) (TC := []) (WR := [(mo, .inr (7, [.ref ms, .ref mi, .ref ma, .int 0, .ref mts, .ref mtz, .ref mtn, .ref mh, .ref mhn, .ref mhw, .ref mhz, .ref mhr, .ref mcl, .ref mtp, .int 0, .int 0, .int 0, .int 0, .int 0, .int 0, .int 0, .int 0, .int 0, .int 0, .int 0, .ref mna, .ref mpi, .ref mca, .ref mwa, .int 0, .ref mrd])), (ms, .inl (kms, 3047, .inl f))]) (TR := [(kms, .int)]) (k := 0) (n := 0) Z [] [0, 1] [] [0] rfl rfl (by decide +kernel) (by decide +kernel) (by decide +kernel) rfl rfl (fun Zc => va_runS (As := [.long (Int32.toInt64 1), .long (Int32.toInt64 0), .long (Int32.toInt64 3)]) (rest := []) X (c_isIn l D 1 0 3 s.heap.size) (va_cwS 3 hts gX7_rule_X7_isIn rfl rfl rfl zh_X7_isIn ⟨Nat.le_of_ble_eq_true rfl, Nat.le_of_ble_eq_true rfl⟩) (zz_pS Zc) rfl rfl hl.1 rfl (lv_room (Nat.le_of_ble_eq_true rfl)) dX7_rule_6 ⟨Nat.le_of_ble_eq_true rfl, Nat.le_of_ble_eq_true rfl⟩) rfl rfl (fun r49 u47 H27 locs28 hw48 Z29 => ?_)
      clear Z
      subst r49
      have Z30 : zz_S D A s [(mo, .inr (7, [.ref ms, .ref mi, .ref ma, .int 0, .ref mts, .ref mtz, .ref mtn, .ref mh, .ref mhn, .ref mhw, .ref mhz, .ref mhr, .ref mcl, .ref mtp, .int 0, .int 0, .int 0, .int 0, .int 0, .int 0, .int 0, .int 0, .int 0, .int 0, .int 0, .ref mna, .ref mpi, .ref mca, .ref mwa, .int 0, .ref mrd])), (ms, .inl (kms, 3047, .inl f))] [(kms, .int)] H27 locs28 := Z29
      clear Z29
      refine zz_v (v := 1) (by decide) ?_
      refine lv_if_eq (tgt := 36) hx hb dX7_rule_9 (by decide) (fun h => absurd h (by decide)) (fun _ => ?_)
      refine lv_iload_n hx hb dX7_rule_12 rfl (lv_at hl 2 rfl) ?_
      refine lv_i2l (v := Int32.toInt64 v) hx hb dX7_rule_13 rfl ?_
      refine lv_iload_n hx hb dX7_rule_14 rfl (lv_at hl 1 rfl) ?_
      refine lv_iconst (v := 1) hx hb dX7_rule_15 (by decide) ?_
      refine lv_icmp_ne (tgt := 23) hx hb dX7_rule_16 (by decide) (fun h => absurd (by decide) h) (fun _ => ?_)
      refine lv_lconst (v := 1) hx hb dX7_rule_19 (by decide) ?_
      refine zz_vl (v := Int32.toInt64 1) (by decide) ?_
      refine lv_goto (tgt := 24) hx hb dX7_rule_20 (by decide) ?_
      refine lv_aload_n hx hb dX7_rule_24 rfl (lv_at hl 0 rfl) ?_
      refine lv_iload_n hx hb dX7_rule_25 rfl (lv_at hl 1 rfl) ?_
      refine zz_ci (WC := [(mo, .inr (7, [.ref ms, .ref mi, .ref ma, .int 0, .ref mts, .ref mtz, .ref mtn, .ref mh, .ref mhn, .ref mhw, .ref mhz, .ref mhr, .ref mcl, .ref mtp, .int 0, .int 0, .int 0, .int 0, .int 0, .int 0, .int 0, .int 0, .int 0, .int 0, .int 0, .ref mna, .ref mpi, .ref mca, .ref mwa, .int 0, .ref mrd])), (ms, .inl (kms, 3047, .inl f))]) (TC := [(kms, .int)]) (WR := []) (TR := []) (k := 0) (n := 0) Z30 [0, 1] [] [0] [] rfl rfl (by decide +kernel) (by decide +kernel) (by decide +kernel) rfl rfl (fun Zc => va_runV (As := [.int 1]) (rest := [.long (Int32.toInt64 1), .long (Int32.toInt64 v)]) X (c7_mostOf1 l D mo ms mi ma mts mtz mtn mh mhn mhw mhz mhr mcl mtp mna mpi mca mwa mrd 0 0 0 0 0 0 0 0 0 0 0 0 0 kms f af_0 af_1 af_2 af_3 af_4 af_5 af_6 af_7 af_8 af_9 af_10 H27.size) (cwV 1 hts gX7_rule_X7_mostOf rfl rfl rfl ⟨rfl, zh_X7_mostOf⟩ ⟨Nat.le_of_ble_eq_true rfl, Nat.le_of_ble_eq_true rfl⟩) (zz_pV (ci := 7) Zc 0 rfl rfl) rfl rfl hl.1 rfl (lv_room (Nat.le_of_ble_eq_true rfl)) dX7_rule_26 ⟨Nat.le_of_ble_eq_true rfl, Nat.le_of_ble_eq_true rfl⟩) rfl rfl (fun r52 u50 H31 locs32 hw51 Z33 => ?_)
      clear Z30
      have hw51 : r52 = 6 := hw51.trans (by decide)
      subst r52
      have Z34 : zz_S D A s [(mo, .inr (7, [.ref ms, .ref mi, .ref ma, .int 0, .ref mts, .ref mtz, .ref mtn, .ref mh, .ref mhn, .ref mhw, .ref mhz, .ref mhr, .ref mcl, .ref mtp, .int 0, .int 0, .int 0, .int 0, .int 0, .int 0, .int 0, .int 0, .int 0, .int 0, .int 0, .ref mna, .ref mpi, .ref mca, .ref mwa, .int 0, .ref mrd])), (ms, .inl (kms, 3047, .inl f))] [(kms, .int)] H31 locs32 := Z33
      clear Z33
      refine lv_i2l (v := Int32.toInt64 6) hx hb dX7_rule_29 rfl ?_
      refine zz_ci (WC := []) (TC := []) (WR := [(mo, .inr (7, [.ref ms, .ref mi, .ref ma, .int 0, .ref mts, .ref mtz, .ref mtn, .ref mh, .ref mhn, .ref mhw, .ref mhz, .ref mhr, .ref mcl, .ref mtp, .int 0, .int 0, .int 0, .int 0, .int 0, .int 0, .int 0, .int 0, .int 0, .int 0, .int 0, .ref mna, .ref mpi, .ref mca, .ref mwa, .int 0, .ref mrd])), (ms, .inl (kms, 3047, .inl f))]) (TR := [(kms, .int)]) (k := 0) (n := 0) Z34 [] [0, 1] [] [0] rfl rfl (by decide +kernel) (by decide +kernel) (by decide +kernel) rfl rfl (fun Zc => va_runS (As := [.long (Int32.toInt64 v), .long (Int32.toInt64 1), .long (Int32.toInt64 6)]) (rest := []) X (c_isIn l D v 1 6 H31.size) (va_cwS 3 hts gX7_rule_X7_isIn rfl rfl rfl zh_X7_isIn ⟨Nat.le_of_ble_eq_true rfl, Nat.le_of_ble_eq_true rfl⟩) (zz_pS Zc) rfl rfl hl.1 rfl (lv_room (Nat.le_of_ble_eq_true rfl)) dX7_rule_30 ⟨Nat.le_of_ble_eq_true rfl, Nat.le_of_ble_eq_true rfl⟩) rfl rfl (fun r55 u53 H35 locs36 hw54 Z37 => ?_)
      clear Z34
      subst r55
      have Z38 : zz_S D A s [(mo, .inr (7, [.ref ms, .ref mi, .ref ma, .int 0, .ref mts, .ref mtz, .ref mtn, .ref mh, .ref mhn, .ref mhw, .ref mhz, .ref mhr, .ref mcl, .ref mtp, .int 0, .int 0, .int 0, .int 0, .int 0, .int 0, .int 0, .int 0, .int 0, .int 0, .int 0, .ref mna, .ref mpi, .ref mca, .ref mwa, .int 0, .ref mrd])), (ms, .inl (kms, 3047, .inl f))] [(kms, .int)] H35 locs36 := Z37
      clear Z37
      by_cases w56 : 1 ≤ v ∧ v ≤ 6
      · refine zz_v (v := 1) (zz_wiT w56) ?_
        refine lv_if_ne (tgt := 39) hx hb dX7_rule_33 (by decide) (fun _ => ?_) (fun h => absurd h (by decide))
        refine lv_aload_n hx hb dX7_rule_39 rfl (lv_at hl 0 rfl) ?_
        refine lv_bipush (v := 7) hx hb dX7_rule_40 (by decide) ?_
        refine lv_iload_n hx hb dX7_rule_42 rfl (lv_at hl 1 rfl) ?_
        refine lv_iadd hx hb dX7_rule_43 ?_
        refine zz_v (v := 8) (by decide) ?_
        refine lv_iload_n hx hb dX7_rule_44 rfl (lv_at hl 2 rfl) ?_
        refine zz_ci (WC := [(mo, .inr (7, [.ref ms, .ref mi, .ref ma, .int 0, .ref mts, .ref mtz, .ref mtn, .ref mh, .ref mhn, .ref mhw, .ref mhz, .ref mhr, .ref mcl, .ref mtp, .int 0, .int 0, .int 0, .int 0, .int 0, .int 0, .int 0, .int 0, .int 0, .int 0, .int 0, .ref mna, .ref mpi, .ref mca, .ref mwa, .int 0, .ref mrd])), (ms, .inl (kms, 3047, .inl f))]) (TC := [(kms, .int)]) (WR := []) (TR := []) (k := 0) (n := 0) Z38 [0, 1] [] [0] [] rfl rfl (by decide +kernel) (by decide +kernel) (by decide +kernel) rfl rfl (fun Zc => va_runV (As := [.int 8, .int v]) (rest := []) X (c7_becomes8 l D mo ms mi ma mts mtz mtn mh mhn mhw mhz mhr mcl mtp mna mpi mca mwa mrd 0 0 0 0 0 0 0 0 0 0 0 0 0 kms f 0 0 0 0 0 0 1 0 3 10 0 v af_0 af_1 af_2 af_3 af_4 af_5 af_6 af_7 af_8 af_9 af_10 H35.size) (cwV 2 hts gX7_rule_X7_becomes rfl rfl rfl ⟨rfl, zh_X7_becomes⟩ ⟨Nat.le_of_ble_eq_true rfl, Nat.le_of_ble_eq_true rfl⟩) (zz_pV (ci := 7) Zc 0 rfl rfl) rfl rfl hl.1 rfl (lv_room (Nat.le_of_ble_eq_true rfl)) dX7_rule_45 ⟨Nat.le_of_ble_eq_true rfl, Nat.le_of_ble_eq_true rfl⟩) rfl rfl (fun r59 u57 H39 locs40 hw58 Z41 => ?_)
        clear Z38
        obtain ⟨f960, rfl⟩ : ∃ z, z = u57 := ⟨_, rfl⟩
        try dsimp only at hw58 Z41
        obtain ⟨⟨p61, p62, p63, p64, p65, p66, p67, p68, p69, p70, p71⟩, hx72⟩ := hw58
        have hx72 : r59 = 3 := hx72.trans (by decide)
        subst r59
        have Z42 : zz_S D A s [(mo, .inr (7, [.ref ms, .ref mi, .ref ma, .int 0, .ref mts, .ref mtz, .ref mtn, .ref mh, .ref mhn, .ref mhw, .ref mhz, .ref mhr, .ref mcl, .ref mtp, .int 0, .int 0, .int 0, .int 0, .int 0, .int 0, .int 0, .int 0, .int 0, .int 0, .int 0, .ref mna, .ref mpi, .ref mca, .ref mwa, .int 0, .ref mrd])), (ms, .inl (kms, 3047, .inl f960))] [(kms, .int)] H39 locs40 := Z41
        clear Z41
        refine lv_istore_n (lv' := [(3, .int 3), (0, .ref mo), (1, .int 1), (2, .int v)]) hx hb dX7_rule_48 rfl hl (by decide) rfl (fun ls43 hl44 => ?_)
        clear hl
        refine lv_aload_n hx hb dX7_rule_49 rfl (lv_at hl44 1 rfl) ?_
        refine zz_cv (WC := [(mo, .inr (7, [.ref ms, .ref mi, .ref ma, .int 0, .ref mts, .ref mtz, .ref mtn, .ref mh, .ref mhn, .ref mhw, .ref mhz, .ref mhr, .ref mcl, .ref mtp, .int 0, .int 0, .int 0, .int 0, .int 0, .int 0, .int 0, .int 0, .int 0, .int 0, .int 0, .ref mna, .ref mpi, .ref mca, .ref mwa, .int 0, .ref mrd])), (ms, .inl (kms, 3047, .inl f960))]) (TC := [(kms, .int)]) (WR := []) (TR := []) (k := 0) (n := 0) Z42 [0, 1] [] [0] [] rfl rfl (by decide +kernel) (by decide +kernel) (by decide +kernel) rfl rfl (fun Zc => va_runV (As := []) (rest := []) X (c7_holds l D mo ms mi ma mts mtz mtn mh mhn mhw mhz mhr mcl mtp mna mpi mca mwa mrd 0 0 0 0 0 0 0 0 0 0 0 0 0 kms f960 0 0 0 0 0 0 1 0 v 10 0 p61 p62 p63 p64 p65 p66 p67 p68 p69 p70 p71 H39.size) (cwV 0 hts gX7_rule_X7_holds rfl rfl rfl ⟨rfl, zh_X7_holds⟩ ⟨Nat.le_of_ble_eq_true rfl, Nat.le_of_ble_eq_true rfl⟩) (zz_pV (ci := 7) Zc 0 rfl rfl) rfl rfl hl44.1 rfl (lv_room (Nat.le_of_ble_eq_true rfl)) dX7_rule_50 ⟨Nat.le_of_ble_eq_true rfl, Nat.le_of_ble_eq_true rfl⟩) rfl rfl (fun u73 H45 locs46 hw74 Z47 => ?_)
        clear Z42
        obtain ⟨f976, rfl⟩ : ∃ z, z = u73 := ⟨_, rfl⟩
        try dsimp only at hw74 Z47
        obtain ⟨⟨p77, p78, p79, p80, p81, p82, p83, p84, p85, p86, p87⟩, hx88⟩ := hw74
        have Z48 : zz_S D A s [(mo, .inr (7, [.ref ms, .ref mi, .ref ma, .int 0, .ref mts, .ref mtz, .ref mtn, .ref mh, .ref mhn, .ref mhw, .ref mhz, .ref mhr, .ref mcl, .ref mtp, .int 0, .int 0, .int 0, .int 0, .int 0, .int 0, .int 0, .int 0, .int 0, .int 0, .int 0, .ref mna, .ref mpi, .ref mca, .ref mwa, .int 0, .ref mrd])), (ms, .inl (kms, 3047, .inl f976))] [(kms, .int)] H45 locs46 := Z47
        clear Z47
        refine lv_iload_n hx hb dX7_rule_53 rfl (lv_at hl44 0 rfl) ?_
        exact zz_iret X hr hlk Z48 () (if_pos w56).symm [] [] (by decide +kernel) rfl rfl dX7_rule_54
      · refine zz_v (v := 0) (zz_wiF w56) ?_
        refine lv_if_ne (tgt := 39) hx hb dX7_rule_33 (by decide) (fun h => absurd (by decide) h) (fun _ => ?_)
        refine lv_ldc (v := (-1000000001)) hx hb hown (hts _ (zz_m 2 rfl)) dX7_rule_36 ?_
        exact zz_iret X hr hlk Z38 () (if_neg w56).symm [] [] (by decide +kernel) rfl rfl dX7_rule_38
    · have s1 : what = 2 := s1
      subst s1
      refine lv_iload_n hx hb dX7_rule_0 rfl (lv_at hl 1 rfl) ?_
      refine lv_i2l (v := Int32.toInt64 2) hx hb dX7_rule_1 rfl ?_
      refine lv_lconst (v := 0) hx hb dX7_rule_2 (by decide) ?_
      refine zz_vl (v := Int32.toInt64 0) (by decide) ?_
      refine lv_ldc2 (v := 3) hx hb hown (hts _ (zz_m 1 rfl)) dX7_rule_3 ?_
      refine zz_vl (v := Int32.toInt64 3) (by decide) ?_
      refine zz_ci (WC := []) (TC := []) (WR := [(mo, .inr (7, [.ref ms, .ref mi, .ref ma, .int 0, .ref mts, .ref mtz, .ref mtn, .ref mh, .ref mhn, .ref mhw, .ref mhz, .ref mhr, .ref mcl, .ref mtp, .int 0, .int 0, .int 0, .int 0, .int 0, .int 0, .int 0, .int 0, .int 0, .int 0, .int 0, .ref mna, .ref mpi, .ref mca, .ref mwa, .int 0, .ref mrd])), (ms, .inl (kms, 3047, .inl f))]) (TR := [(kms, .int)]) (k := 0) (n := 0) Z [] [0, 1] [] [0] rfl rfl (by decide +kernel) (by decide +kernel) (by decide +kernel) rfl rfl (fun Zc => va_runS (As := [.long (Int32.toInt64 2), .long (Int32.toInt64 0), .long (Int32.toInt64 3)]) (rest := []) X (c_isIn l D 2 0 3 s.heap.size) (va_cwS 3 hts gX7_rule_X7_isIn rfl rfl rfl zh_X7_isIn ⟨Nat.le_of_ble_eq_true rfl, Nat.le_of_ble_eq_true rfl⟩) (zz_pS Zc) rfl rfl hl.1 rfl (lv_room (Nat.le_of_ble_eq_true rfl)) dX7_rule_6 ⟨Nat.le_of_ble_eq_true rfl, Nat.le_of_ble_eq_true rfl⟩) rfl rfl (fun r91 u89 H49 locs50 hw90 Z51 => ?_)
      clear Z
      subst r91
      have Z52 : zz_S D A s [(mo, .inr (7, [.ref ms, .ref mi, .ref ma, .int 0, .ref mts, .ref mtz, .ref mtn, .ref mh, .ref mhn, .ref mhw, .ref mhz, .ref mhr, .ref mcl, .ref mtp, .int 0, .int 0, .int 0, .int 0, .int 0, .int 0, .int 0, .int 0, .int 0, .int 0, .int 0, .ref mna, .ref mpi, .ref mca, .ref mwa, .int 0, .ref mrd])), (ms, .inl (kms, 3047, .inl f))] [(kms, .int)] H49 locs50 := Z51
      clear Z51
      refine zz_v (v := 1) (by decide) ?_
      refine lv_if_eq (tgt := 36) hx hb dX7_rule_9 (by decide) (fun h => absurd h (by decide)) (fun _ => ?_)
      refine lv_iload_n hx hb dX7_rule_12 rfl (lv_at hl 2 rfl) ?_
      refine lv_i2l (v := Int32.toInt64 v) hx hb dX7_rule_13 rfl ?_
      refine lv_iload_n hx hb dX7_rule_14 rfl (lv_at hl 1 rfl) ?_
      refine lv_iconst (v := 1) hx hb dX7_rule_15 (by decide) ?_
      refine lv_icmp_ne (tgt := 23) hx hb dX7_rule_16 (by decide) (fun _ => ?_) (fun h => absurd h (by decide))
      refine lv_lconst (v := 0) hx hb dX7_rule_23 (by decide) ?_
      refine zz_vl (v := Int32.toInt64 0) (by decide) ?_
      refine lv_aload_n hx hb dX7_rule_24 rfl (lv_at hl 0 rfl) ?_
      refine lv_iload_n hx hb dX7_rule_25 rfl (lv_at hl 1 rfl) ?_
      refine zz_ci (WC := [(mo, .inr (7, [.ref ms, .ref mi, .ref ma, .int 0, .ref mts, .ref mtz, .ref mtn, .ref mh, .ref mhn, .ref mhw, .ref mhz, .ref mhr, .ref mcl, .ref mtp, .int 0, .int 0, .int 0, .int 0, .int 0, .int 0, .int 0, .int 0, .int 0, .int 0, .int 0, .ref mna, .ref mpi, .ref mca, .ref mwa, .int 0, .ref mrd])), (ms, .inl (kms, 3047, .inl f))]) (TC := [(kms, .int)]) (WR := []) (TR := []) (k := 0) (n := 0) Z52 [0, 1] [] [0] [] rfl rfl (by decide +kernel) (by decide +kernel) (by decide +kernel) rfl rfl (fun Zc => va_runV (As := [.int 2]) (rest := [.long (Int32.toInt64 0), .long (Int32.toInt64 v)]) X (c7_mostOf2 l D mo ms mi ma mts mtz mtn mh mhn mhw mhz mhr mcl mtp mna mpi mca mwa mrd 0 0 0 0 0 0 0 0 0 0 0 0 0 kms f af_0 af_1 af_2 af_3 af_4 af_5 af_6 af_7 af_8 af_9 af_10 H49.size) (cwV 1 hts gX7_rule_X7_mostOf rfl rfl rfl ⟨rfl, zh_X7_mostOf⟩ ⟨Nat.le_of_ble_eq_true rfl, Nat.le_of_ble_eq_true rfl⟩) (zz_pV (ci := 7) Zc 0 rfl rfl) rfl rfl hl.1 rfl (lv_room (Nat.le_of_ble_eq_true rfl)) dX7_rule_26 ⟨Nat.le_of_ble_eq_true rfl, Nat.le_of_ble_eq_true rfl⟩) rfl rfl (fun r94 u92 H53 locs54 hw93 Z55 => ?_)
      clear Z52
      have hw93 : r94 = 100 := hw93.trans (by decide)
      subst r94
      have Z56 : zz_S D A s [(mo, .inr (7, [.ref ms, .ref mi, .ref ma, .int 0, .ref mts, .ref mtz, .ref mtn, .ref mh, .ref mhn, .ref mhw, .ref mhz, .ref mhr, .ref mcl, .ref mtp, .int 0, .int 0, .int 0, .int 0, .int 0, .int 0, .int 0, .int 0, .int 0, .int 0, .int 0, .ref mna, .ref mpi, .ref mca, .ref mwa, .int 0, .ref mrd])), (ms, .inl (kms, 3047, .inl f))] [(kms, .int)] H53 locs54 := Z55
      clear Z55
      refine lv_i2l (v := Int32.toInt64 100) hx hb dX7_rule_29 rfl ?_
      refine zz_ci (WC := []) (TC := []) (WR := [(mo, .inr (7, [.ref ms, .ref mi, .ref ma, .int 0, .ref mts, .ref mtz, .ref mtn, .ref mh, .ref mhn, .ref mhw, .ref mhz, .ref mhr, .ref mcl, .ref mtp, .int 0, .int 0, .int 0, .int 0, .int 0, .int 0, .int 0, .int 0, .int 0, .int 0, .int 0, .ref mna, .ref mpi, .ref mca, .ref mwa, .int 0, .ref mrd])), (ms, .inl (kms, 3047, .inl f))]) (TR := [(kms, .int)]) (k := 0) (n := 0) Z56 [] [0, 1] [] [0] rfl rfl (by decide +kernel) (by decide +kernel) (by decide +kernel) rfl rfl (fun Zc => va_runS (As := [.long (Int32.toInt64 v), .long (Int32.toInt64 0), .long (Int32.toInt64 100)]) (rest := []) X (c_isIn l D v 0 100 H53.size) (va_cwS 3 hts gX7_rule_X7_isIn rfl rfl rfl zh_X7_isIn ⟨Nat.le_of_ble_eq_true rfl, Nat.le_of_ble_eq_true rfl⟩) (zz_pS Zc) rfl rfl hl.1 rfl (lv_room (Nat.le_of_ble_eq_true rfl)) dX7_rule_30 ⟨Nat.le_of_ble_eq_true rfl, Nat.le_of_ble_eq_true rfl⟩) rfl rfl (fun r97 u95 H57 locs58 hw96 Z59 => ?_)
      clear Z56
      subst r97
      have Z60 : zz_S D A s [(mo, .inr (7, [.ref ms, .ref mi, .ref ma, .int 0, .ref mts, .ref mtz, .ref mtn, .ref mh, .ref mhn, .ref mhw, .ref mhz, .ref mhr, .ref mcl, .ref mtp, .int 0, .int 0, .int 0, .int 0, .int 0, .int 0, .int 0, .int 0, .int 0, .int 0, .int 0, .ref mna, .ref mpi, .ref mca, .ref mwa, .int 0, .ref mrd])), (ms, .inl (kms, 3047, .inl f))] [(kms, .int)] H57 locs58 := Z59
      clear Z59
      by_cases w98 : 0 ≤ v ∧ v ≤ 100
      · refine zz_v (v := 1) (zz_wiT w98) ?_
        refine lv_if_ne (tgt := 39) hx hb dX7_rule_33 (by decide) (fun _ => ?_) (fun h => absurd h (by decide))
        refine lv_aload_n hx hb dX7_rule_39 rfl (lv_at hl 0 rfl) ?_
        refine lv_bipush (v := 7) hx hb dX7_rule_40 (by decide) ?_
        refine lv_iload_n hx hb dX7_rule_42 rfl (lv_at hl 1 rfl) ?_
        refine lv_iadd hx hb dX7_rule_43 ?_
        refine zz_v (v := 9) (by decide) ?_
        refine lv_iload_n hx hb dX7_rule_44 rfl (lv_at hl 2 rfl) ?_
        refine zz_ci (WC := [(mo, .inr (7, [.ref ms, .ref mi, .ref ma, .int 0, .ref mts, .ref mtz, .ref mtn, .ref mh, .ref mhn, .ref mhw, .ref mhz, .ref mhr, .ref mcl, .ref mtp, .int 0, .int 0, .int 0, .int 0, .int 0, .int 0, .int 0, .int 0, .int 0, .int 0, .int 0, .ref mna, .ref mpi, .ref mca, .ref mwa, .int 0, .ref mrd])), (ms, .inl (kms, 3047, .inl f))]) (TC := [(kms, .int)]) (WR := []) (TR := []) (k := 0) (n := 0) Z60 [0, 1] [] [0] [] rfl rfl (by decide +kernel) (by decide +kernel) (by decide +kernel) rfl rfl (fun Zc => va_runV (As := [.int 9, .int v]) (rest := []) X (c7_becomes9 l D mo ms mi ma mts mtz mtn mh mhn mhw mhz mhr mcl mtp mna mpi mca mwa mrd 0 0 0 0 0 0 0 0 0 0 0 0 0 kms f 0 0 0 0 0 0 1 0 3 10 0 v af_0 af_1 af_2 af_3 af_4 af_5 af_6 af_7 af_8 af_9 af_10 H57.size) (cwV 2 hts gX7_rule_X7_becomes rfl rfl rfl ⟨rfl, zh_X7_becomes⟩ ⟨Nat.le_of_ble_eq_true rfl, Nat.le_of_ble_eq_true rfl⟩) (zz_pV (ci := 7) Zc 0 rfl rfl) rfl rfl hl.1 rfl (lv_room (Nat.le_of_ble_eq_true rfl)) dX7_rule_45 ⟨Nat.le_of_ble_eq_true rfl, Nat.le_of_ble_eq_true rfl⟩) rfl rfl (fun r101 u99 H61 locs62 hw100 Z63 => ?_)
        clear Z60
        obtain ⟨f9102, rfl⟩ : ∃ z, z = u99 := ⟨_, rfl⟩
        try dsimp only at hw100 Z63
        obtain ⟨⟨p103, p104, p105, p106, p107, p108, p109, p110, p111, p112, p113⟩, hx114⟩ := hw100
        have hx114 : r101 = 10 := hx114.trans (by decide)
        subst r101
        have Z64 : zz_S D A s [(mo, .inr (7, [.ref ms, .ref mi, .ref ma, .int 0, .ref mts, .ref mtz, .ref mtn, .ref mh, .ref mhn, .ref mhw, .ref mhz, .ref mhr, .ref mcl, .ref mtp, .int 0, .int 0, .int 0, .int 0, .int 0, .int 0, .int 0, .int 0, .int 0, .int 0, .int 0, .ref mna, .ref mpi, .ref mca, .ref mwa, .int 0, .ref mrd])), (ms, .inl (kms, 3047, .inl f9102))] [(kms, .int)] H61 locs62 := Z63
        clear Z63
        refine lv_istore_n (lv' := [(3, .int 10), (0, .ref mo), (1, .int 2), (2, .int v)]) hx hb dX7_rule_48 rfl hl (by decide) rfl (fun ls65 hl66 => ?_)
        clear hl
        refine lv_aload_n hx hb dX7_rule_49 rfl (lv_at hl66 1 rfl) ?_
        refine zz_cv (WC := [(mo, .inr (7, [.ref ms, .ref mi, .ref ma, .int 0, .ref mts, .ref mtz, .ref mtn, .ref mh, .ref mhn, .ref mhw, .ref mhz, .ref mhr, .ref mcl, .ref mtp, .int 0, .int 0, .int 0, .int 0, .int 0, .int 0, .int 0, .int 0, .int 0, .int 0, .int 0, .ref mna, .ref mpi, .ref mca, .ref mwa, .int 0, .ref mrd])), (ms, .inl (kms, 3047, .inl f9102))]) (TC := [(kms, .int)]) (WR := []) (TR := []) (k := 0) (n := 0) Z64 [0, 1] [] [0] [] rfl rfl (by decide +kernel) (by decide +kernel) (by decide +kernel) rfl rfl (fun Zc => va_runV (As := []) (rest := []) X (c7_holds l D mo ms mi ma mts mtz mtn mh mhn mhw mhz mhr mcl mtp mna mpi mca mwa mrd 0 0 0 0 0 0 0 0 0 0 0 0 0 kms f9102 0 0 0 0 0 0 1 0 3 v 0 p103 p104 p105 p106 p107 p108 p109 p110 p111 p112 p113 H61.size) (cwV 0 hts gX7_rule_X7_holds rfl rfl rfl ⟨rfl, zh_X7_holds⟩ ⟨Nat.le_of_ble_eq_true rfl, Nat.le_of_ble_eq_true rfl⟩) (zz_pV (ci := 7) Zc 0 rfl rfl) rfl rfl hl66.1 rfl (lv_room (Nat.le_of_ble_eq_true rfl)) dX7_rule_50 ⟨Nat.le_of_ble_eq_true rfl, Nat.le_of_ble_eq_true rfl⟩) rfl rfl (fun u115 H67 locs68 hw116 Z69 => ?_)
        clear Z64
        obtain ⟨f9118, rfl⟩ : ∃ z, z = u115 := ⟨_, rfl⟩
        try dsimp only at hw116 Z69
        obtain ⟨⟨p119, p120, p121, p122, p123, p124, p125, p126, p127, p128, p129⟩, hx130⟩ := hw116
        have Z70 : zz_S D A s [(mo, .inr (7, [.ref ms, .ref mi, .ref ma, .int 0, .ref mts, .ref mtz, .ref mtn, .ref mh, .ref mhn, .ref mhw, .ref mhz, .ref mhr, .ref mcl, .ref mtp, .int 0, .int 0, .int 0, .int 0, .int 0, .int 0, .int 0, .int 0, .int 0, .int 0, .int 0, .ref mna, .ref mpi, .ref mca, .ref mwa, .int 0, .ref mrd])), (ms, .inl (kms, 3047, .inl f9118))] [(kms, .int)] H67 locs68 := Z69
        clear Z69
        refine lv_iload_n hx hb dX7_rule_53 rfl (lv_at hl66 0 rfl) ?_
        exact zz_iret X hr hlk Z70 () (if_pos w98).symm [] [] (by decide +kernel) rfl rfl dX7_rule_54
      · refine zz_v (v := 0) (zz_wiF w98) ?_
        refine lv_if_ne (tgt := 39) hx hb dX7_rule_33 (by decide) (fun h => absurd (by decide) h) (fun _ => ?_)
        refine lv_ldc (v := (-1000000001)) hx hb hown (hts _ (zz_m 2 rfl)) dX7_rule_36 ?_
        exact zz_iret X hr hlk Z60 () (if_neg w98).symm [] [] (by decide +kernel) rfl rfl dX7_rule_38
    · have s1 : what = 3 := s1
      subst s1
      refine lv_iload_n hx hb dX7_rule_0 rfl (lv_at hl 1 rfl) ?_
      refine lv_i2l (v := Int32.toInt64 3) hx hb dX7_rule_1 rfl ?_
      refine lv_lconst (v := 0) hx hb dX7_rule_2 (by decide) ?_
      refine zz_vl (v := Int32.toInt64 0) (by decide) ?_
      refine lv_ldc2 (v := 3) hx hb hown (hts _ (zz_m 1 rfl)) dX7_rule_3 ?_
      refine zz_vl (v := Int32.toInt64 3) (by decide) ?_
      refine zz_ci (WC := []) (TC := []) (WR := [(mo, .inr (7, [.ref ms, .ref mi, .ref ma, .int 0, .ref mts, .ref mtz, .ref mtn, .ref mh, .ref mhn, .ref mhw, .ref mhz, .ref mhr, .ref mcl, .ref mtp, .int 0, .int 0, .int 0, .int 0, .int 0, .int 0, .int 0, .int 0, .int 0, .int 0, .int 0, .ref mna, .ref mpi, .ref mca, .ref mwa, .int 0, .ref mrd])), (ms, .inl (kms, 3047, .inl f))]) (TR := [(kms, .int)]) (k := 0) (n := 0) Z [] [0, 1] [] [0] rfl rfl (by decide +kernel) (by decide +kernel) (by decide +kernel) rfl rfl (fun Zc => va_runS (As := [.long (Int32.toInt64 3), .long (Int32.toInt64 0), .long (Int32.toInt64 3)]) (rest := []) X (c_isIn l D 3 0 3 s.heap.size) (va_cwS 3 hts gX7_rule_X7_isIn rfl rfl rfl zh_X7_isIn ⟨Nat.le_of_ble_eq_true rfl, Nat.le_of_ble_eq_true rfl⟩) (zz_pS Zc) rfl rfl hl.1 rfl (lv_room (Nat.le_of_ble_eq_true rfl)) dX7_rule_6 ⟨Nat.le_of_ble_eq_true rfl, Nat.le_of_ble_eq_true rfl⟩) rfl rfl (fun r133 u131 H71 locs72 hw132 Z73 => ?_)
      clear Z
      subst r133
      have Z74 : zz_S D A s [(mo, .inr (7, [.ref ms, .ref mi, .ref ma, .int 0, .ref mts, .ref mtz, .ref mtn, .ref mh, .ref mhn, .ref mhw, .ref mhz, .ref mhr, .ref mcl, .ref mtp, .int 0, .int 0, .int 0, .int 0, .int 0, .int 0, .int 0, .int 0, .int 0, .int 0, .int 0, .ref mna, .ref mpi, .ref mca, .ref mwa, .int 0, .ref mrd])), (ms, .inl (kms, 3047, .inl f))] [(kms, .int)] H71 locs72 := Z73
      clear Z73
      refine zz_v (v := 1) (by decide) ?_
      refine lv_if_eq (tgt := 36) hx hb dX7_rule_9 (by decide) (fun h => absurd h (by decide)) (fun _ => ?_)
      refine lv_iload_n hx hb dX7_rule_12 rfl (lv_at hl 2 rfl) ?_
      refine lv_i2l (v := Int32.toInt64 v) hx hb dX7_rule_13 rfl ?_
      refine lv_iload_n hx hb dX7_rule_14 rfl (lv_at hl 1 rfl) ?_
      refine lv_iconst (v := 1) hx hb dX7_rule_15 (by decide) ?_
      refine lv_icmp_ne (tgt := 23) hx hb dX7_rule_16 (by decide) (fun _ => ?_) (fun h => absurd h (by decide))
      refine lv_lconst (v := 0) hx hb dX7_rule_23 (by decide) ?_
      refine zz_vl (v := Int32.toInt64 0) (by decide) ?_
      refine lv_aload_n hx hb dX7_rule_24 rfl (lv_at hl 0 rfl) ?_
      refine lv_iload_n hx hb dX7_rule_25 rfl (lv_at hl 1 rfl) ?_
      refine zz_ci (WC := [(mo, .inr (7, [.ref ms, .ref mi, .ref ma, .int 0, .ref mts, .ref mtz, .ref mtn, .ref mh, .ref mhn, .ref mhw, .ref mhz, .ref mhr, .ref mcl, .ref mtp, .int 0, .int 0, .int 0, .int 0, .int 0, .int 0, .int 0, .int 0, .int 0, .int 0, .int 0, .ref mna, .ref mpi, .ref mca, .ref mwa, .int 0, .ref mrd])), (ms, .inl (kms, 3047, .inl f))]) (TC := [(kms, .int)]) (WR := []) (TR := []) (k := 0) (n := 0) Z74 [0, 1] [] [0] [] rfl rfl (by decide +kernel) (by decide +kernel) (by decide +kernel) rfl rfl (fun Zc => va_runV (As := [.int 3]) (rest := [.long (Int32.toInt64 0), .long (Int32.toInt64 v)]) X (c7_mostOf3 l D mo ms mi ma mts mtz mtn mh mhn mhw mhz mhr mcl mtp mna mpi mca mwa mrd 0 0 0 0 0 0 0 0 0 0 0 0 0 kms f af_0 af_1 af_2 af_3 af_4 af_5 af_6 af_7 af_8 af_9 af_10 H71.size) (cwV 1 hts gX7_rule_X7_mostOf rfl rfl rfl ⟨rfl, zh_X7_mostOf⟩ ⟨Nat.le_of_ble_eq_true rfl, Nat.le_of_ble_eq_true rfl⟩) (zz_pV (ci := 7) Zc 0 rfl rfl) rfl rfl hl.1 rfl (lv_room (Nat.le_of_ble_eq_true rfl)) dX7_rule_26 ⟨Nat.le_of_ble_eq_true rfl, Nat.le_of_ble_eq_true rfl⟩) rfl rfl (fun r136 u134 H75 locs76 hw135 Z77 => ?_)
      clear Z74
      have hw135 : r136 = 2 := hw135.trans (by decide)
      subst r136
      have Z78 : zz_S D A s [(mo, .inr (7, [.ref ms, .ref mi, .ref ma, .int 0, .ref mts, .ref mtz, .ref mtn, .ref mh, .ref mhn, .ref mhw, .ref mhz, .ref mhr, .ref mcl, .ref mtp, .int 0, .int 0, .int 0, .int 0, .int 0, .int 0, .int 0, .int 0, .int 0, .int 0, .int 0, .ref mna, .ref mpi, .ref mca, .ref mwa, .int 0, .ref mrd])), (ms, .inl (kms, 3047, .inl f))] [(kms, .int)] H75 locs76 := Z77
      clear Z77
      refine lv_i2l (v := Int32.toInt64 2) hx hb dX7_rule_29 rfl ?_
      refine zz_ci (WC := []) (TC := []) (WR := [(mo, .inr (7, [.ref ms, .ref mi, .ref ma, .int 0, .ref mts, .ref mtz, .ref mtn, .ref mh, .ref mhn, .ref mhw, .ref mhz, .ref mhr, .ref mcl, .ref mtp, .int 0, .int 0, .int 0, .int 0, .int 0, .int 0, .int 0, .int 0, .int 0, .int 0, .int 0, .ref mna, .ref mpi, .ref mca, .ref mwa, .int 0, .ref mrd])), (ms, .inl (kms, 3047, .inl f))]) (TR := [(kms, .int)]) (k := 0) (n := 0) Z78 [] [0, 1] [] [0] rfl rfl (by decide +kernel) (by decide +kernel) (by decide +kernel) rfl rfl (fun Zc => va_runS (As := [.long (Int32.toInt64 v), .long (Int32.toInt64 0), .long (Int32.toInt64 2)]) (rest := []) X (c_isIn l D v 0 2 H75.size) (va_cwS 3 hts gX7_rule_X7_isIn rfl rfl rfl zh_X7_isIn ⟨Nat.le_of_ble_eq_true rfl, Nat.le_of_ble_eq_true rfl⟩) (zz_pS Zc) rfl rfl hl.1 rfl (lv_room (Nat.le_of_ble_eq_true rfl)) dX7_rule_30 ⟨Nat.le_of_ble_eq_true rfl, Nat.le_of_ble_eq_true rfl⟩) rfl rfl (fun r139 u137 H79 locs80 hw138 Z81 => ?_)
      clear Z78
      subst r139
      have Z82 : zz_S D A s [(mo, .inr (7, [.ref ms, .ref mi, .ref ma, .int 0, .ref mts, .ref mtz, .ref mtn, .ref mh, .ref mhn, .ref mhw, .ref mhz, .ref mhr, .ref mcl, .ref mtp, .int 0, .int 0, .int 0, .int 0, .int 0, .int 0, .int 0, .int 0, .int 0, .int 0, .int 0, .ref mna, .ref mpi, .ref mca, .ref mwa, .int 0, .ref mrd])), (ms, .inl (kms, 3047, .inl f))] [(kms, .int)] H79 locs80 := Z81
      clear Z81
      by_cases w140 : 0 ≤ v ∧ v ≤ 2
      · refine zz_v (v := 1) (zz_wiT w140) ?_
        refine lv_if_ne (tgt := 39) hx hb dX7_rule_33 (by decide) (fun _ => ?_) (fun h => absurd h (by decide))
        refine lv_aload_n hx hb dX7_rule_39 rfl (lv_at hl 0 rfl) ?_
        refine lv_bipush (v := 7) hx hb dX7_rule_40 (by decide) ?_
        refine lv_iload_n hx hb dX7_rule_42 rfl (lv_at hl 1 rfl) ?_
        refine lv_iadd hx hb dX7_rule_43 ?_
        refine zz_v (v := 10) (by decide) ?_
        refine lv_iload_n hx hb dX7_rule_44 rfl (lv_at hl 2 rfl) ?_
        refine zz_ci (WC := [(mo, .inr (7, [.ref ms, .ref mi, .ref ma, .int 0, .ref mts, .ref mtz, .ref mtn, .ref mh, .ref mhn, .ref mhw, .ref mhz, .ref mhr, .ref mcl, .ref mtp, .int 0, .int 0, .int 0, .int 0, .int 0, .int 0, .int 0, .int 0, .int 0, .int 0, .int 0, .ref mna, .ref mpi, .ref mca, .ref mwa, .int 0, .ref mrd])), (ms, .inl (kms, 3047, .inl f))]) (TC := [(kms, .int)]) (WR := []) (TR := []) (k := 0) (n := 0) Z82 [0, 1] [] [0] [] rfl rfl (by decide +kernel) (by decide +kernel) (by decide +kernel) rfl rfl (fun Zc => va_runV (As := [.int 10, .int v]) (rest := []) X (c7_becomes10 l D mo ms mi ma mts mtz mtn mh mhn mhw mhz mhr mcl mtp mna mpi mca mwa mrd 0 0 0 0 0 0 0 0 0 0 0 0 0 kms f 0 0 0 0 0 0 1 0 3 10 0 v af_0 af_1 af_2 af_3 af_4 af_5 af_6 af_7 af_8 af_9 af_10 H79.size) (cwV 2 hts gX7_rule_X7_becomes rfl rfl rfl ⟨rfl, zh_X7_becomes⟩ ⟨Nat.le_of_ble_eq_true rfl, Nat.le_of_ble_eq_true rfl⟩) (zz_pV (ci := 7) Zc 0 rfl rfl) rfl rfl hl.1 rfl (lv_room (Nat.le_of_ble_eq_true rfl)) dX7_rule_45 ⟨Nat.le_of_ble_eq_true rfl, Nat.le_of_ble_eq_true rfl⟩) rfl rfl (fun r143 u141 H83 locs84 hw142 Z85 => ?_)
        clear Z82
        obtain ⟨f9144, rfl⟩ : ∃ z, z = u141 := ⟨_, rfl⟩
        try dsimp only at hw142 Z85
        obtain ⟨⟨p145, p146, p147, p148, p149, p150, p151, p152, p153, p154, p155⟩, hx156⟩ := hw142
        have hx156 : r143 = 0 := hx156.trans (by decide)
        subst r143
        have Z86 : zz_S D A s [(mo, .inr (7, [.ref ms, .ref mi, .ref ma, .int 0, .ref mts, .ref mtz, .ref mtn, .ref mh, .ref mhn, .ref mhw, .ref mhz, .ref mhr, .ref mcl, .ref mtp, .int 0, .int 0, .int 0, .int 0, .int 0, .int 0, .int 0, .int 0, .int 0, .int 0, .int 0, .ref mna, .ref mpi, .ref mca, .ref mwa, .int 0, .ref mrd])), (ms, .inl (kms, 3047, .inl f9144))] [(kms, .int)] H83 locs84 := Z85
        clear Z85
        refine lv_istore_n (lv' := [(3, .int 0), (0, .ref mo), (1, .int 3), (2, .int v)]) hx hb dX7_rule_48 rfl hl (by decide) rfl (fun ls87 hl88 => ?_)
        clear hl
        refine lv_aload_n hx hb dX7_rule_49 rfl (lv_at hl88 1 rfl) ?_
        refine zz_cv (WC := [(mo, .inr (7, [.ref ms, .ref mi, .ref ma, .int 0, .ref mts, .ref mtz, .ref mtn, .ref mh, .ref mhn, .ref mhw, .ref mhz, .ref mhr, .ref mcl, .ref mtp, .int 0, .int 0, .int 0, .int 0, .int 0, .int 0, .int 0, .int 0, .int 0, .int 0, .int 0, .ref mna, .ref mpi, .ref mca, .ref mwa, .int 0, .ref mrd])), (ms, .inl (kms, 3047, .inl f9144))]) (TC := [(kms, .int)]) (WR := []) (TR := []) (k := 0) (n := 0) Z86 [0, 1] [] [0] [] rfl rfl (by decide +kernel) (by decide +kernel) (by decide +kernel) rfl rfl (fun Zc => va_runV (As := []) (rest := []) X (c7_holds l D mo ms mi ma mts mtz mtn mh mhn mhw mhz mhr mcl mtp mna mpi mca mwa mrd 0 0 0 0 0 0 0 0 0 0 0 0 0 kms f9144 0 0 0 0 0 0 1 0 3 10 v p145 p146 p147 p148 p149 p150 p151 p152 p153 p154 p155 H83.size) (cwV 0 hts gX7_rule_X7_holds rfl rfl rfl ⟨rfl, zh_X7_holds⟩ ⟨Nat.le_of_ble_eq_true rfl, Nat.le_of_ble_eq_true rfl⟩) (zz_pV (ci := 7) Zc 0 rfl rfl) rfl rfl hl88.1 rfl (lv_room (Nat.le_of_ble_eq_true rfl)) dX7_rule_50 ⟨Nat.le_of_ble_eq_true rfl, Nat.le_of_ble_eq_true rfl⟩) rfl rfl (fun u157 H89 locs90 hw158 Z91 => ?_)
        clear Z86
        obtain ⟨f9160, rfl⟩ : ∃ z, z = u157 := ⟨_, rfl⟩
        try dsimp only at hw158 Z91
        obtain ⟨⟨p161, p162, p163, p164, p165, p166, p167, p168, p169, p170, p171⟩, hx172⟩ := hw158
        have Z92 : zz_S D A s [(mo, .inr (7, [.ref ms, .ref mi, .ref ma, .int 0, .ref mts, .ref mtz, .ref mtn, .ref mh, .ref mhn, .ref mhw, .ref mhz, .ref mhr, .ref mcl, .ref mtp, .int 0, .int 0, .int 0, .int 0, .int 0, .int 0, .int 0, .int 0, .int 0, .int 0, .int 0, .ref mna, .ref mpi, .ref mca, .ref mwa, .int 0, .ref mrd])), (ms, .inl (kms, 3047, .inl f9160))] [(kms, .int)] H89 locs90 := Z91
        clear Z91
        refine lv_iload_n hx hb dX7_rule_53 rfl (lv_at hl88 0 rfl) ?_
        exact zz_iret X hr hlk Z92 () (if_pos w140).symm [] [] (by decide +kernel) rfl rfl dX7_rule_54
      · refine zz_v (v := 0) (zz_wiF w140) ?_
        refine lv_if_ne (tgt := 39) hx hb dX7_rule_33 (by decide) (fun h => absurd (by decide) h) (fun _ => ?_)
        refine lv_ldc (v := (-1000000001)) hx hb hown (hts _ (zz_m 2 rfl)) dX7_rule_36 ?_
        exact zz_iret X hr hlk Z82 () (if_neg w140).symm [] [] (by decide +kernel) rfl rfl dX7_rule_38

set_option maxHeartbeats 4000000 in
set_option maxRecDepth 100000 in
theorem c7_cloth (l : Launch) (D : va_G) (mo : Nat) (ms : Nat) (mi : Nat) (ma : Nat) (mts : Nat) (mtz : Nat) (mtn : Nat) (mh : Nat) (mhn : Nat) (mhw : Nat) (mhz : Nat) (mhr : Nat) (mcl : Nat) (mtp : Nat) (mna : Nat) (mpi : Nat) (mca : Nat) (mwa : Nat) (mrd : Nat) (kms : ClassId) (f : (Nat → Int32)) (what : Int32) (af_0 : f 0 = 0) (af_1 : f 1 = 0) (af_2 : f 2 = 0) (af_3 : f 3 = 0) (af_4 : f 4 = 0) (af_5 : f 5 = 0) (af_6 : f 6 = 1) (af_7 : f 7 = 0) (af_8 : f 8 = 3) (af_9 : f 9 = 10) (af_10 : f 10 = 0) : zz_MI l yX7_cloth wsX7_cloth 2 41 0 0 D [.ref mo, .int what] [(mo, .inr (7, [.ref ms, .ref mi, .ref ma, .int 0, .ref mts, .ref mtz, .ref mtn, .ref mh, .ref mhn, .ref mhw, .ref mhz, .ref mhr, .ref mcl, .ref mtp, .int 0, .int 0, .int 0, .int 0, .int 0, .int 0, .int 0, .int 0, .int 0, .int 0, .int 0, .ref mna, .ref mpi, .ref mca, .ref mwa, .int 0, .ref mrd])), (ms, .inl (kms, 3047, .inl f))] [(kms, .int)] (fun (r : Int32) (u : Unit) => r = sp_cloth what) (fun (u : Unit) => []) (fun (u : Unit) => []) := by
  intro sz
  refine Met.ofW (cc := cX7_cloth) (maxL := 2) (ret := (some .int)) (by decide) rfl ?_
  intro p e s m args below meth c s₁ B hml hv
  obtain ⟨rfl, hC⟩ := hv
  have hx := B.exec
  have hb := B.bytes
  have hr := B.returns
  have hts := atoms_spec (ws := wsX7_cloth) B.pre
  have hown : s.vm.findClass RX7 = some m.cls := findClass_of_methodNamed B.named
  have hlk := B.notSynchronized
  have X : CallFix p m c cX7_cloth 2 s _ wsX7_cloth RX7 := ⟨hx, hb, hml, hown, hts⟩
  have Z := zz_enter hC
  generalize va_A [(mo, .inr (7, [.ref ms, .ref mi, .ref ma, .int 0, .ref mts, .ref mtz, .ref mtn, .ref mh, .ref mhn, .ref mhw, .ref mhz, .ref mhr, .ref mcl, .ref mtp, .int 0, .int 0, .int 0, .int 0, .int 0, .int 0, .int 0, .int 0, .int 0, .int 0, .int 0, .ref mna, .ref mpi, .ref mca, .ref mwa, .int 0, .ref mrd])), (ms, .inl (kms, 3047, .inl f))] sz = A at Z ⊢
  have hl := lv_entry ([.ref mo, .int what]) (n := 2) (Nat.le_of_ble_eq_true rfl)
  rw [lg_entry_eq]
  generalize (lg_sl ([.ref mo, .int what]) ++ List.replicate (2 - (lg_sl ([.ref mo, .int what])).length) Slot.unset).toArray = ls at hl ⊢
  have hl : lv_has ls 2 [(0, .ref mo), (1, .int what)] := hl
  refine lv_iload_n hx hb dX7_cloth_0 rfl (lv_at hl 1 rfl) ?_
  rcases zz_sw 6 what with s1 | ⟨j, hj, s1⟩
  · refine lv_tableOut (tgt := 72) hx hb dX7_cloth_1 s1 (by decide) ?_
    refine lv_ldc (v := (-1000000001)) hx hb hown (hts _ (zz_m 2 rfl)) dX7_cloth_72 ?_
    exact zz_iret X hr hlk Z () (if_pos s1).symm [] [] (by decide +kernel) rfl rfl dX7_cloth_74
  · rcases (show j = 0 ∨ j = 1 ∨ j = 2 ∨ j = 3 ∨ j = 4 ∨ j = 5 ∨ j = 6 by omega) with rfl | rfl | rfl | rfl | rfl | rfl | rfl
    · have s1 : what = 0 := s1
      subst s1
      refine lv_tableIn (x := 0) (off := 43) (tgt := 44) hx hb dX7_cloth_1 (by decide) (by decide) rfl (by decide) ?_
      refine lv_aload_n hx hb dX7_cloth_44 rfl (lv_at hl 0 rfl) ?_
      refine zz_get X Z 0 rfl rfl (fun w h => List.mem_cons_of_mem _ (List.mem_append_right _ h)) 0 rfl (zz_m 1 rfl) rfl dX7_cloth_45 ?_
      refine lv_bipush (v := 7) hx hb dX7_cloth_48 (by decide) ?_
      refine lv_iload_n hx hb dX7_cloth_50 rfl (lv_at hl 1 rfl) ?_
      refine lv_iadd hx hb dX7_cloth_51 ?_
      refine zz_v (v := 7) (by decide) ?_
      refine zz_ild X Z 1 0 rfl rfl (zz_in 7 3047 rfl) dX7_cloth_52 ?_
      refine zz_v (v := 0) af_7 ?_
      exact zz_iret X hr hlk Z () (by decide) [] [] (by decide +kernel) rfl rfl dX7_cloth_53
    · have s1 : what = 1 := s1
      subst s1
      refine lv_tableIn (x := 1) (off := 43) (tgt := 44) hx hb dX7_cloth_1 (by decide) (by decide) rfl (by decide) ?_
      refine lv_aload_n hx hb dX7_cloth_44 rfl (lv_at hl 0 rfl) ?_
      refine zz_get X Z 0 rfl rfl (fun w h => List.mem_cons_of_mem _ (List.mem_append_right _ h)) 0 rfl (zz_m 1 rfl) rfl dX7_cloth_45 ?_
      refine lv_bipush (v := 7) hx hb dX7_cloth_48 (by decide) ?_
      refine lv_iload_n hx hb dX7_cloth_50 rfl (lv_at hl 1 rfl) ?_
      refine lv_iadd hx hb dX7_cloth_51 ?_
      refine zz_v (v := 8) (by decide) ?_
      refine zz_ild X Z 1 0 rfl rfl (zz_in 8 3047 rfl) dX7_cloth_52 ?_
      refine zz_v (v := 3) af_8 ?_
      exact zz_iret X hr hlk Z () (by decide) [] [] (by decide +kernel) rfl rfl dX7_cloth_53
    · have s1 : what = 2 := s1
      subst s1
      refine lv_tableIn (x := 2) (off := 43) (tgt := 44) hx hb dX7_cloth_1 (by decide) (by decide) rfl (by decide) ?_
      refine lv_aload_n hx hb dX7_cloth_44 rfl (lv_at hl 0 rfl) ?_
      refine zz_get X Z 0 rfl rfl (fun w h => List.mem_cons_of_mem _ (List.mem_append_right _ h)) 0 rfl (zz_m 1 rfl) rfl dX7_cloth_45 ?_
      refine lv_bipush (v := 7) hx hb dX7_cloth_48 (by decide) ?_
      refine lv_iload_n hx hb dX7_cloth_50 rfl (lv_at hl 1 rfl) ?_
      refine lv_iadd hx hb dX7_cloth_51 ?_
      refine zz_v (v := 9) (by decide) ?_
      refine zz_ild X Z 1 0 rfl rfl (zz_in 9 3047 rfl) dX7_cloth_52 ?_
      refine zz_v (v := 10) af_9 ?_
      exact zz_iret X hr hlk Z () (by decide) [] [] (by decide +kernel) rfl rfl dX7_cloth_53
    · have s1 : what = 3 := s1
      subst s1
      refine lv_tableIn (x := 3) (off := 43) (tgt := 44) hx hb dX7_cloth_1 (by decide) (by decide) rfl (by decide) ?_
      refine lv_aload_n hx hb dX7_cloth_44 rfl (lv_at hl 0 rfl) ?_
      refine zz_get X Z 0 rfl rfl (fun w h => List.mem_cons_of_mem _ (List.mem_append_right _ h)) 0 rfl (zz_m 1 rfl) rfl dX7_cloth_45 ?_
      refine lv_bipush (v := 7) hx hb dX7_cloth_48 (by decide) ?_
      refine lv_iload_n hx hb dX7_cloth_50 rfl (lv_at hl 1 rfl) ?_
      refine lv_iadd hx hb dX7_cloth_51 ?_
      refine zz_v (v := 10) (by decide) ?_
      refine zz_ild X Z 1 0 rfl rfl (zz_in 10 3047 rfl) dX7_cloth_52 ?_
      refine zz_v (v := 0) af_10 ?_
      exact zz_iret X hr hlk Z () (by decide) [] [] (by decide +kernel) rfl rfl dX7_cloth_53
    · have s1 : what = 4 := s1
      subst s1
      refine lv_tableIn (x := 4) (off := 53) (tgt := 54) hx hb dX7_cloth_1 (by decide) (by decide) rfl (by decide) ?_
      refine lv_aload_n hx hb dX7_cloth_54 rfl (lv_at hl 0 rfl) ?_
      refine zz_ci (WC := [(mo, .inr (7, [.ref ms, .ref mi, .ref ma, .int 0, .ref mts, .ref mtz, .ref mtn, .ref mh, .ref mhn, .ref mhw, .ref mhz, .ref mhr, .ref mcl, .ref mtp, .int 0, .int 0, .int 0, .int 0, .int 0, .int 0, .int 0, .int 0, .int 0, .int 0, .int 0, .ref mna, .ref mpi, .ref mca, .ref mwa, .int 0, .ref mrd])), (ms, .inl (kms, 3047, .inl f))]) (TC := [(kms, .int)]) (WR := []) (TR := []) (k := 0) (n := 0) Z [0, 1] [] [0] [] rfl rfl (by decide +kernel) (by decide +kernel) (by decide +kernel) rfl rfl (fun Zc => va_runV (As := []) (rest := []) X (c7_heat l D mo ms mi ma mts mtz mtn mh mhn mhw mhz mhr mcl mtp mna mpi mca mwa mrd 0 0 0 0 0 0 0 0 0 0 0 0 0 kms f af_0 af_1 af_2 af_3 af_4 af_5 af_6 af_7 af_8 af_9 af_10 s.heap.size) (cwV 0 hts gX7_cloth_X7_heat rfl rfl rfl ⟨rfl, zh_X7_heat⟩ ⟨Nat.le_of_ble_eq_true rfl, Nat.le_of_ble_eq_true rfl⟩) (zz_pV (ci := 7) Zc 0 rfl rfl) rfl rfl hl.1 rfl (lv_room (Nat.le_of_ble_eq_true rfl)) dX7_cloth_55 ⟨Nat.le_of_ble_eq_true rfl, Nat.le_of_ble_eq_true rfl⟩) rfl rfl (fun r4 u2 H1 locs2 hw3 Z3 => ?_)
      clear Z
      have hw3 : r4 = 20 := hw3.trans (by decide)
      subst r4
      have Z4 : zz_S D A s [(mo, .inr (7, [.ref ms, .ref mi, .ref ma, .int 0, .ref mts, .ref mtz, .ref mtn, .ref mh, .ref mhn, .ref mhw, .ref mhz, .ref mhr, .ref mcl, .ref mtp, .int 0, .int 0, .int 0, .int 0, .int 0, .int 0, .int 0, .int 0, .int 0, .int 0, .int 0, .ref mna, .ref mpi, .ref mca, .ref mwa, .int 0, .ref mrd])), (ms, .inl (kms, 3047, .inl f))] [(kms, .int)] H1 locs2 := Z3
      clear Z3
      exact zz_iret X hr hlk Z4 () (by decide) [] [] (by decide +kernel) rfl rfl dX7_cloth_58
    · have s1 : what = 5 := s1
      subst s1
      refine lv_tableIn (x := 5) (off := 58) (tgt := 59) hx hb dX7_cloth_1 (by decide) (by decide) rfl (by decide) ?_
      refine lv_aload_n hx hb dX7_cloth_59 rfl (lv_at hl 0 rfl) ?_
      refine zz_ci (WC := [(mo, .inr (7, [.ref ms, .ref mi, .ref ma, .int 0, .ref mts, .ref mtz, .ref mtn, .ref mh, .ref mhn, .ref mhw, .ref mhz, .ref mhr, .ref mcl, .ref mtp, .int 0, .int 0, .int 0, .int 0, .int 0, .int 0, .int 0, .int 0, .int 0, .int 0, .int 0, .ref mna, .ref mpi, .ref mca, .ref mwa, .int 0, .ref mrd])), (ms, .inl (kms, 3047, .inl f))]) (TC := [(kms, .int)]) (WR := []) (TR := []) (k := 0) (n := 0) Z [0, 1] [] [0] [] rfl rfl (by decide +kernel) (by decide +kernel) (by decide +kernel) rfl rfl (fun Zc => va_runV (As := []) (rest := []) X (c7_firstShaded l D mo ms mi ma mts mtz mtn mh mhn mhw mhz mhr mcl mtp mna mpi mca mwa mrd 0 0 0 0 0 0 0 0 0 0 0 0 0 kms f af_0 af_1 af_2 af_3 af_4 af_5 af_6 af_7 af_8 af_9 af_10 s.heap.size) (cwV 0 hts gX7_cloth_X7_firstShaded rfl rfl rfl ⟨rfl, zh_X7_firstShaded⟩ ⟨Nat.le_of_ble_eq_true rfl, Nat.le_of_ble_eq_true rfl⟩) (zz_pV (ci := 7) Zc 0 rfl rfl) rfl rfl hl.1 rfl (lv_room (Nat.le_of_ble_eq_true rfl)) dX7_cloth_60 ⟨Nat.le_of_ble_eq_true rfl, Nat.le_of_ble_eq_true rfl⟩) rfl rfl (fun r7 u5 H5 locs6 hw6 Z7 => ?_)
      clear Z
      have hw6 : r7 = 0 := hw6.trans (by decide)
      subst r7
      have Z8 : zz_S D A s [(mo, .inr (7, [.ref ms, .ref mi, .ref ma, .int 0, .ref mts, .ref mtz, .ref mtn, .ref mh, .ref mhn, .ref mhw, .ref mhz, .ref mhr, .ref mcl, .ref mtp, .int 0, .int 0, .int 0, .int 0, .int 0, .int 0, .int 0, .int 0, .int 0, .int 0, .int 0, .ref mna, .ref mpi, .ref mca, .ref mwa, .int 0, .ref mrd])), (ms, .inl (kms, 3047, .inl f))] [(kms, .int)] H5 locs6 := Z7
      clear Z7
      refine zz_ci (WC := []) (TC := []) (WR := [(mo, .inr (7, [.ref ms, .ref mi, .ref ma, .int 0, .ref mts, .ref mtz, .ref mtn, .ref mh, .ref mhn, .ref mhw, .ref mhz, .ref mhr, .ref mcl, .ref mtp, .int 0, .int 0, .int 0, .int 0, .int 0, .int 0, .int 0, .int 0, .int 0, .int 0, .int 0, .ref mna, .ref mpi, .ref mca, .ref mwa, .int 0, .ref mrd])), (ms, .inl (kms, 3047, .inl f))]) (TR := [(kms, .int)]) (k := 0) (n := 0) Z8 [] [0, 1] [] [0] rfl rfl (by decide +kernel) (by decide +kernel) (by decide +kernel) rfl rfl (fun Zc => va_runS (As := [.int 0]) (rest := []) X (c_orNone l D 0 H5.size) (va_cwS 1 hts gX7_cloth_X7_orNone rfl rfl rfl zh_X7_orNone ⟨Nat.le_of_ble_eq_true rfl, Nat.le_of_ble_eq_true rfl⟩) (zz_pS Zc) rfl rfl hl.1 rfl (lv_room (Nat.le_of_ble_eq_true rfl)) dX7_cloth_63 ⟨Nat.le_of_ble_eq_true rfl, Nat.le_of_ble_eq_true rfl⟩) rfl rfl (fun r10 u8 H9 locs10 hw9 Z11 => ?_)
      clear Z8
      have hw9 : r10 = 0 := hw9.trans (by decide)
      subst r10
      have Z12 : zz_S D A s [(mo, .inr (7, [.ref ms, .ref mi, .ref ma, .int 0, .ref mts, .ref mtz, .ref mtn, .ref mh, .ref mhn, .ref mhw, .ref mhz, .ref mhr, .ref mcl, .ref mtp, .int 0, .int 0, .int 0, .int 0, .int 0, .int 0, .int 0, .int 0, .int 0, .int 0, .int 0, .ref mna, .ref mpi, .ref mca, .ref mwa, .int 0, .ref mrd])), (ms, .inl (kms, 3047, .inl f))] [(kms, .int)] H9 locs10 := Z11
      clear Z11
      exact zz_iret X hr hlk Z12 () (by decide) [] [] (by decide +kernel) rfl rfl dX7_cloth_66
    · have s1 : what = 6 := s1
      subst s1
      refine lv_tableIn (x := 6) (off := 66) (tgt := 67) hx hb dX7_cloth_1 (by decide) (by decide) rfl (by decide) ?_
      refine lv_aload_n hx hb dX7_cloth_67 rfl (lv_at hl 0 rfl) ?_
      refine zz_ci (WC := [(mo, .inr (7, [.ref ms, .ref mi, .ref ma, .int 0, .ref mts, .ref mtz, .ref mtn, .ref mh, .ref mhn, .ref mhw, .ref mhz, .ref mhr, .ref mcl, .ref mtp, .int 0, .int 0, .int 0, .int 0, .int 0, .int 0, .int 0, .int 0, .int 0, .int 0, .int 0, .ref mna, .ref mpi, .ref mca, .ref mwa, .int 0, .ref mrd])), (ms, .inl (kms, 3047, .inl f))]) (TC := [(kms, .int)]) (WR := []) (TR := []) (k := 0) (n := 0) Z [0, 1] [] [0] [] rfl rfl (by decide +kernel) (by decide +kernel) (by decide +kernel) rfl rfl (fun Zc => va_runV (As := []) (rest := []) X (c7_shadedSet l D mo ms mi ma mts mtz mtn mh mhn mhw mhz mhr mcl mtp mna mpi mca mwa mrd 0 0 0 0 0 0 0 0 0 0 0 0 0 kms f af_0 af_1 af_2 af_3 af_4 af_5 af_6 af_7 af_8 af_9 af_10 s.heap.size) (cwV 0 hts gX7_cloth_X7_shadedSet rfl rfl rfl ⟨rfl, zh_X7_shadedSet⟩ ⟨Nat.le_of_ble_eq_true rfl, Nat.le_of_ble_eq_true rfl⟩) (zz_pV (ci := 7) Zc 0 rfl rfl) rfl rfl hl.1 rfl (lv_room (Nat.le_of_ble_eq_true rfl)) dX7_cloth_68 ⟨Nat.le_of_ble_eq_true rfl, Nat.le_of_ble_eq_true rfl⟩) rfl rfl (fun r13 u11 H13 locs14 hw12 Z15 => ?_)
      clear Z
      have hw12 : r13 = 0 := hw12.trans (by decide)
      subst r13
      have Z16 : zz_S D A s [(mo, .inr (7, [.ref ms, .ref mi, .ref ma, .int 0, .ref mts, .ref mtz, .ref mtn, .ref mh, .ref mhn, .ref mhw, .ref mhz, .ref mhr, .ref mcl, .ref mtp, .int 0, .int 0, .int 0, .int 0, .int 0, .int 0, .int 0, .int 0, .int 0, .int 0, .int 0, .ref mna, .ref mpi, .ref mca, .ref mwa, .int 0, .ref mrd])), (ms, .inl (kms, 3047, .inl f))] [(kms, .int)] H13 locs14 := Z15
      clear Z15
      exact zz_iret X hr hlk Z16 () (by decide) [] [] (by decide +kernel) rfl rfl dX7_cloth_71

set_option maxHeartbeats 4000000 in
set_option maxRecDepth 100000 in
theorem c7_book (l : Launch) (D : va_G) (mo : Nat) (ms : Nat) (mi : Nat) (ma : Nat) (mts : Nat) (mtz : Nat) (mtn : Nat) (mh : Nat) (mhn : Nat) (mhw : Nat) (mhz : Nat) (mhr : Nat) (mcl : Nat) (mtp : Nat) (mna : Nat) (mpi : Nat) (mca : Nat) (mwa : Nat) (mrd : Nat) (kms : ClassId) (f : (Nat → Int32)) (what : Int32) (af_0 : f 0 = 0) (af_1 : f 1 = 0) (af_2 : f 2 = 0) (af_3 : f 3 = 0) (af_4 : f 4 = 0) (af_5 : f 5 = 0) (af_6 : f 6 = 1) (af_7 : f 7 = 0) (af_8 : f 8 = 3) (af_9 : f 9 = 10) (af_10 : f 10 = 0) : zz_MI l yX7_book wsX7_book 0 0 0 0 D [.ref mo, .int what] [(mo, .inr (7, [.ref ms, .ref mi, .ref ma, .int 0, .ref mts, .ref mtz, .ref mtn, .ref mh, .ref mhn, .ref mhw, .ref mhz, .ref mhr, .ref mcl, .ref mtp, .int 0, .int 0, .int 0, .int 0, .int 0, .int 0, .int 0, .int 0, .int 0, .int 0, .int 0, .ref mna, .ref mpi, .ref mca, .ref mwa, .int 0, .ref mrd])), (ms, .inl (kms, 3047, .inl f))] [(kms, .int)] (fun (r : Int32) (u : Unit) => r = sp_book what) (fun (u : Unit) => []) (fun (u : Unit) => []) := by
  intro sz
  refine Met.ofW (cc := cX7_book) (maxL := 4) (ret := (some .int)) (by decide) rfl ?_
  intro p e s m args below meth c s₁ B hml hv
  obtain ⟨rfl, hC⟩ := hv
  have hx := B.exec
  have hb := B.bytes
  have hr := B.returns
  have hts := atoms_spec (ws := wsX7_book) B.pre
  have hown : s.vm.findClass RX7 = some m.cls := findClass_of_methodNamed B.named
  have hlk := B.notSynchronized
  have X : CallFix p m c cX7_book 4 s _ wsX7_book RX7 := ⟨hx, hb, hml, hown, hts⟩
  have Z := zz_enter hC
  generalize va_A [(mo, .inr (7, [.ref ms, .ref mi, .ref ma, .int 0, .ref mts, .ref mtz, .ref mtn, .ref mh, .ref mhn, .ref mhw, .ref mhz, .ref mhr, .ref mcl, .ref mtp, .int 0, .int 0, .int 0, .int 0, .int 0, .int 0, .int 0, .int 0, .int 0, .int 0, .int 0, .ref mna, .ref mpi, .ref mca, .ref mwa, .int 0, .ref mrd])), (ms, .inl (kms, 3047, .inl f))] sz = A at Z ⊢
  have hl := lv_entry ([.ref mo, .int what]) (n := 4) (Nat.le_of_ble_eq_true rfl)
  rw [lg_entry_eq]
  generalize (lg_sl ([.ref mo, .int what]) ++ List.replicate (4 - (lg_sl ([.ref mo, .int what])).length) Slot.unset).toArray = ls at hl ⊢
  have hl : lv_has ls 4 [(0, .ref mo), (1, .int what)] := hl
  refine lv_iload_n hx hb dX7_book_0 rfl (lv_at hl 1 rfl) ?_
  rcases zz_sw 3 what with s1 | ⟨j, hj, s1⟩
  · refine lv_tableOut (tgt := 56) hx hb dX7_book_1 s1 (by decide) ?_
    refine lv_ldc (v := (-1000000001)) hx hb hown (hts _ (zz_m 2 rfl)) dX7_book_56 ?_
    exact zz_iret X hr hlk Z () (if_pos s1).symm [] [] (by decide +kernel) rfl rfl dX7_book_58
  · rcases (show j = 0 ∨ j = 1 ∨ j = 2 ∨ j = 3 by omega) with rfl | rfl | rfl | rfl
    · have s1 : what = 0 := s1
      subst s1
      refine lv_tableIn (x := 0) (off := 31) (tgt := 32) hx hb dX7_book_1 (by decide) (by decide) rfl (by decide) ?_
      refine lv_aload_n hx hb dX7_book_32 rfl (lv_at hl 0 rfl) ?_
      refine zz_get X Z 0 rfl rfl (fun w h => List.mem_cons_of_mem _ (List.mem_append_right _ h)) 0 rfl (zz_m 1 rfl) rfl dX7_book_33 ?_
      refine lv_iconst (v := 4) hx hb dX7_book_36 (by decide) ?_
      refine zz_ild X Z 1 0 rfl rfl (zz_in 4 3047 rfl) dX7_book_37 ?_
      refine zz_v (v := 0) af_4 ?_
      exact zz_iret X hr hlk Z () (by decide) [] [] (by decide +kernel) rfl rfl dX7_book_38
    · have s1 : what = 1 := s1
      subst s1
      refine lv_tableIn (x := 1) (off := 38) (tgt := 39) hx hb dX7_book_1 (by decide) (by decide) rfl (by decide) ?_
      refine lv_aload_n hx hb dX7_book_39 rfl (lv_at hl 0 rfl) ?_
      refine zz_get X Z 0 rfl rfl (fun w h => List.mem_cons_of_mem _ (List.mem_append_right _ h)) 0 rfl (zz_m 1 rfl) rfl dX7_book_40 ?_
      refine lv_iconst (v := 3) hx hb dX7_book_43 (by decide) ?_
      refine zz_ild X Z 1 0 rfl rfl (zz_in 3 3047 rfl) dX7_book_44 ?_
      refine zz_v (v := 0) af_3 ?_
      exact zz_iret X hr hlk Z () (by decide) [] [] (by decide +kernel) rfl rfl dX7_book_45
    · have s1 : what = 2 := s1
      subst s1
      refine lv_tableIn (x := 2) (off := 45) (tgt := 46) hx hb dX7_book_1 (by decide) (by decide) rfl (by decide) ?_
      refine lv_aload_n hx hb dX7_book_46 rfl (lv_at hl 0 rfl) ?_
      refine zz_get X Z 0 rfl rfl (fun w h => List.mem_cons_of_mem _ (List.mem_append_right _ h)) 0 rfl (zz_m 1 rfl) rfl dX7_book_47 ?_
      refine lv_iconst (v := 5) hx hb dX7_book_50 (by decide) ?_
      refine zz_ild X Z 1 0 rfl rfl (zz_in 5 3047 rfl) dX7_book_51 ?_
      refine zz_v (v := 0) af_5 ?_
      exact zz_iret X hr hlk Z () (by decide) [] [] (by decide +kernel) rfl rfl dX7_book_52
    · have s1 : what = 3 := s1
      subst s1
      refine lv_tableIn (x := 3) (off := 52) (tgt := 53) hx hb dX7_book_1 (by decide) (by decide) rfl (by decide) ?_
      refine lv_goto (tgt := 59) hx hb dX7_book_53 (by decide) ?_
      refine lv_iconst (v := 0) hx hb dX7_book_59 (by decide) ?_
      refine lv_istore_n (lv' := [(2, .int 0), (0, .ref mo), (1, .int 3)]) hx hb dX7_book_60 rfl hl (by decide) rfl (fun ls1 hl2 => ?_)
      clear hl
      refine lv_iconst (v := 0) hx hb dX7_book_61 (by decide) ?_
      refine lv_istore_n (lv' := [(3, .int 0), (2, .int 0), (0, .ref mo), (1, .int 3)]) hx hb dX7_book_62 rfl hl2 (by decide) rfl (fun ls3 hl4 => ?_)
      clear hl2
      refine lv_iload_n hx hb dX7_book_63 rfl (lv_at hl4 0 rfl) ?_
      refine lv_aload_n hx hb dX7_book_64 rfl (lv_at hl4 2 rfl) ?_
      refine zz_get X Z 0 rfl rfl (fun w h => List.mem_cons_of_mem _ (List.mem_append_right _ h)) 0 rfl (zz_m 1 rfl) rfl dX7_book_65 ?_
      refine lv_iconst (v := 0) hx hb dX7_book_68 (by decide) ?_
      refine zz_ild X Z 1 0 rfl rfl (zz_in 0 3047 rfl) dX7_book_69 ?_
      refine zz_v (v := 0) af_0 ?_
      refine lv_icmp_ge (tgt := 88) hx hb dX7_book_70 (by decide) (fun _ => ?_) (fun h => absurd (by decide) h)
      refine lv_iload_n hx hb dX7_book_88 rfl (lv_at hl4 1 rfl) ?_
      exact zz_iret X hr hlk Z () (by decide) [] [] (by decide +kernel) rfl rfl dX7_book_89

set_option maxHeartbeats 4000000 in
set_option maxRecDepth 100000 in
theorem c7_count (l : Launch) (D : va_G) (mo : Nat) (ms : Nat) (mi : Nat) (ma : Nat) (mts : Nat) (mtz : Nat) (mtn : Nat) (mh : Nat) (mhn : Nat) (mhw : Nat) (mhz : Nat) (mhr : Nat) (mcl : Nat) (mtp : Nat) (mna : Nat) (mpi : Nat) (mca : Nat) (mwa : Nat) (mrd : Nat) (kms : ClassId) (f : (Nat → Int32)) (what : Int32) (af_0 : f 0 = 0) (af_1 : f 1 = 0) (af_2 : f 2 = 0) (af_3 : f 3 = 0) (af_4 : f 4 = 0) (af_5 : f 5 = 0) (af_6 : f 6 = 1) (af_7 : f 7 = 0) (af_8 : f 8 = 3) (af_9 : f 9 = 10) (af_10 : f 10 = 0) : zz_MI l yX7_count wsX7_count 2 44 0 0 D [.ref mo, .int what] [(mo, .inr (7, [.ref ms, .ref mi, .ref ma, .int 0, .ref mts, .ref mtz, .ref mtn, .ref mh, .ref mhn, .ref mhw, .ref mhz, .ref mhr, .ref mcl, .ref mtp, .int 0, .int 0, .int 0, .int 0, .int 0, .int 0, .int 0, .int 0, .int 0, .int 0, .int 0, .ref mna, .ref mpi, .ref mca, .ref mwa, .int 0, .ref mrd])), (ms, .inl (kms, 3047, .inl f))] [(kms, .int)] (fun (r : Int32) (u : Unit) => r = sp_count what) (fun (u : Unit) => []) (fun (u : Unit) => []) := by
  intro sz
  refine Met.ofW (cc := cX7_count) (maxL := 2) (ret := (some .int)) (by decide) rfl ?_
  intro p e s m args below meth c s₁ B hml hv
  obtain ⟨rfl, hC⟩ := hv
  have hx := B.exec
  have hb := B.bytes
  have hr := B.returns
  have hts := atoms_spec (ws := wsX7_count) B.pre
  have hown : s.vm.findClass RX7 = some m.cls := findClass_of_methodNamed B.named
  have hlk := B.notSynchronized
  have X : CallFix p m c cX7_count 2 s _ wsX7_count RX7 := ⟨hx, hb, hml, hown, hts⟩
  have Z := zz_enter hC
  generalize va_A [(mo, .inr (7, [.ref ms, .ref mi, .ref ma, .int 0, .ref mts, .ref mtz, .ref mtn, .ref mh, .ref mhn, .ref mhw, .ref mhz, .ref mhr, .ref mcl, .ref mtp, .int 0, .int 0, .int 0, .int 0, .int 0, .int 0, .int 0, .int 0, .int 0, .int 0, .int 0, .ref mna, .ref mpi, .ref mca, .ref mwa, .int 0, .ref mrd])), (ms, .inl (kms, 3047, .inl f))] sz = A at Z ⊢
  have hl := lv_entry ([.ref mo, .int what]) (n := 2) (Nat.le_of_ble_eq_true rfl)
  rw [lg_entry_eq]
  generalize (lg_sl ([.ref mo, .int what]) ++ List.replicate (2 - (lg_sl ([.ref mo, .int what])).length) Slot.unset).toArray = ls at hl ⊢
  have hl : lv_has ls 2 [(0, .ref mo), (1, .int what)] := hl
  refine lv_iload_n hx hb dX7_count_0 rfl (lv_at hl 1 rfl) ?_
  rcases zz_sw 6 what with s1 | ⟨j, hj, s1⟩
  · refine lv_tableOut (tgt := 88) hx hb dX7_count_1 s1 (by decide) ?_
    refine lv_ldc (v := (-1000000001)) hx hb hown (hts _ (zz_m 4 rfl)) dX7_count_88 ?_
    exact zz_iret X hr hlk Z () (if_pos s1).symm [] [] (by decide +kernel) rfl rfl dX7_count_90
  · rcases (show j = 0 ∨ j = 1 ∨ j = 2 ∨ j = 3 ∨ j = 4 ∨ j = 5 ∨ j = 6 by omega) with rfl | rfl | rfl | rfl | rfl | rfl | rfl
    · have s1 : what = 0 := s1
      subst s1
      refine lv_tableIn (x := 0) (off := 43) (tgt := 44) hx hb dX7_count_1 (by decide) (by decide) rfl (by decide) ?_
      refine lv_aload_n hx hb dX7_count_44 rfl (lv_at hl 0 rfl) ?_
      refine zz_get X Z 0 rfl rfl (fun w h => List.mem_cons_of_mem _ (List.mem_append_right _ h)) 0 rfl (zz_m 1 rfl) rfl dX7_count_45 ?_
      refine lv_iconst (v := 0) hx hb dX7_count_48 (by decide) ?_
      refine zz_ild X Z 1 0 rfl rfl (zz_in 0 3047 rfl) dX7_count_49 ?_
      refine zz_v (v := 0) af_0 ?_
      exact zz_iret X hr hlk Z () (by decide) [] [] (by decide +kernel) rfl rfl dX7_count_50
    · have s1 : what = 1 := s1
      subst s1
      refine lv_tableIn (x := 1) (off := 50) (tgt := 51) hx hb dX7_count_1 (by decide) (by decide) rfl (by decide) ?_
      refine lv_aload_n hx hb dX7_count_51 rfl (lv_at hl 0 rfl) ?_
      refine zz_get X Z 0 rfl rfl (fun w h => List.mem_cons_of_mem _ (List.mem_append_right _ h)) 0 rfl (zz_m 1 rfl) rfl dX7_count_52 ?_
      refine lv_iconst (v := 2) hx hb dX7_count_55 (by decide) ?_
      refine zz_ild X Z 1 0 rfl rfl (zz_in 2 3047 rfl) dX7_count_56 ?_
      refine zz_v (v := 0) af_2 ?_
      exact zz_iret X hr hlk Z () (by decide) [] [] (by decide +kernel) rfl rfl dX7_count_57
    · have s1 : what = 2 := s1
      subst s1
      refine lv_tableIn (x := 2) (off := 57) (tgt := 58) hx hb dX7_count_1 (by decide) (by decide) rfl (by decide) ?_
      refine lv_aload_n hx hb dX7_count_58 rfl (lv_at hl 0 rfl) ?_
      refine zz_ci (WC := [(mo, .inr (7, [.ref ms, .ref mi, .ref ma, .int 0, .ref mts, .ref mtz, .ref mtn, .ref mh, .ref mhn, .ref mhw, .ref mhz, .ref mhr, .ref mcl, .ref mtp, .int 0, .int 0, .int 0, .int 0, .int 0, .int 0, .int 0, .int 0, .int 0, .int 0, .int 0, .ref mna, .ref mpi, .ref mca, .ref mwa, .int 0, .ref mrd])), (ms, .inl (kms, 3047, .inl f))]) (TC := [(kms, .int)]) (WR := []) (TR := []) (k := 0) (n := 0) Z [0, 1] [] [0] [] rfl rfl (by decide +kernel) (by decide +kernel) (by decide +kernel) rfl rfl (fun Zc => va_runV (As := []) (rest := []) X (c7_manyShaded l D mo ms mi ma mts mtz mtn mh mhn mhw mhz mhr mcl mtp mna mpi mca mwa mrd 0 0 0 0 0 0 0 0 0 0 0 0 0 kms f af_0 af_1 af_2 af_3 af_4 af_5 af_6 af_7 af_8 af_9 af_10 s.heap.size) (cwV 0 hts gX7_count_X7_manyShaded rfl rfl rfl ⟨rfl, zh_X7_manyShaded⟩ ⟨Nat.le_of_ble_eq_true rfl, Nat.le_of_ble_eq_true rfl⟩) (zz_pV (ci := 7) Zc 0 rfl rfl) rfl rfl hl.1 rfl (lv_room (Nat.le_of_ble_eq_true rfl)) dX7_count_59 ⟨Nat.le_of_ble_eq_true rfl, Nat.le_of_ble_eq_true rfl⟩) rfl rfl (fun r4 u2 H1 locs2 hw3 Z3 => ?_)
      clear Z
      have hw3 : r4 = 0 := hw3.trans (by decide)
      subst r4
      have Z4 : zz_S D A s [(mo, .inr (7, [.ref ms, .ref mi, .ref ma, .int 0, .ref mts, .ref mtz, .ref mtn, .ref mh, .ref mhn, .ref mhw, .ref mhz, .ref mhr, .ref mcl, .ref mtp, .int 0, .int 0, .int 0, .int 0, .int 0, .int 0, .int 0, .int 0, .int 0, .int 0, .int 0, .ref mna, .ref mpi, .ref mca, .ref mwa, .int 0, .ref mrd])), (ms, .inl (kms, 3047, .inl f))] [(kms, .int)] H1 locs2 := Z3
      clear Z3
      exact zz_iret X hr hlk Z4 () (by decide) [] [] (by decide +kernel) rfl rfl dX7_count_62
    · have s1 : what = 3 := s1
      subst s1
      refine lv_tableIn (x := 3) (off := 62) (tgt := 63) hx hb dX7_count_1 (by decide) (by decide) rfl (by decide) ?_
      refine lv_aload_n hx hb dX7_count_63 rfl (lv_at hl 0 rfl) ?_
      refine zz_get X Z 0 rfl rfl (fun w h => List.mem_cons_of_mem _ (List.mem_append_right _ h)) 0 rfl (zz_m 1 rfl) rfl dX7_count_64 ?_
      refine lv_iconst (v := 1) hx hb dX7_count_67 (by decide) ?_
      refine zz_ild X Z 1 0 rfl rfl (zz_in 1 3047 rfl) dX7_count_68 ?_
      refine zz_v (v := 0) af_1 ?_
      exact zz_iret X hr hlk Z () (by decide) [] [] (by decide +kernel) rfl rfl dX7_count_69
    · have s1 : what = 4 := s1
      subst s1
      refine lv_tableIn (x := 4) (off := 69) (tgt := 70) hx hb dX7_count_1 (by decide) (by decide) rfl (by decide) ?_
      refine lv_aload_n hx hb dX7_count_70 rfl (lv_at hl 0 rfl) ?_
      refine zz_get X Z 0 rfl rfl (fun w h => List.mem_cons_of_mem _ (List.mem_append_right _ h)) 29 rfl (zz_m 2 rfl) rfl dX7_count_71 ?_
      exact zz_iret X hr hlk Z () (by decide) [] [] (by decide +kernel) rfl rfl dX7_count_74
    · have s1 : what = 5 := s1
      subst s1
      refine lv_tableIn (x := 5) (off := 74) (tgt := 75) hx hb dX7_count_1 (by decide) (by decide) rfl (by decide) ?_
      refine lv_aload_n hx hb dX7_count_75 rfl (lv_at hl 0 rfl) ?_
      refine zz_get X Z 0 rfl rfl (fun w h => List.mem_cons_of_mem _ (List.mem_append_right _ h)) 14 rfl (zz_m 3 rfl) rfl dX7_count_76 ?_
      exact zz_iret X hr hlk Z () (by decide) [] [] (by decide +kernel) rfl rfl dX7_count_79
    · have s1 : what = 6 := s1
      subst s1
      refine lv_tableIn (x := 6) (off := 79) (tgt := 80) hx hb dX7_count_1 (by decide) (by decide) rfl (by decide) ?_
      refine lv_aload_n hx hb dX7_count_80 rfl (lv_at hl 0 rfl) ?_
      refine zz_get X Z 0 rfl rfl (fun w h => List.mem_cons_of_mem _ (List.mem_append_right _ h)) 0 rfl (zz_m 1 rfl) rfl dX7_count_81 ?_
      refine lv_bipush (v := 6) hx hb dX7_count_84 (by decide) ?_
      refine zz_ild X Z 1 0 rfl rfl (zz_in 6 3047 rfl) dX7_count_86 ?_
      refine zz_v (v := 1) af_6 ?_
      exact zz_iret X hr hlk Z () (by decide) [] [] (by decide +kernel) rfl rfl dX7_count_87
