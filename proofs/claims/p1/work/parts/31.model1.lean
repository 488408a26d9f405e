set_option maxHeartbeats 4000000 in
set_option maxRecDepth 100000 in
theorem c_isIn (l : Launch) (D : va_G) (v : Int32) (lo : Int32) (hi : Int32)  : zz_MI l yX7_isIn wsX7_isIn 0 0 0 0 D [.long (Int32.toInt64 v), .long (Int32.toInt64 lo), .long (Int32.toInt64 hi)] [] [] (fun (r : Int32) (u : Unit) => r = zz_wi v lo hi) (fun (u : Unit) => []) (fun (u : Unit) => []) := by
  intro sz
  refine Met.ofW (cc := cX7_isIn) (maxL := 6) (ret := (some .boolean)) (by decide) rfl ?_
  intro p e s m args below meth c s₁ B hml hv
  obtain ⟨rfl, hC⟩ := hv
  have hx := B.exec
  have hb := B.bytes
  have hr := B.returns
  have hts := atoms_spec (ws := wsX7_isIn) B.pre
  have hown : s.vm.findClass RX7 = some m.cls := findClass_of_methodNamed B.named
  have hlk := B.notSynchronized
  have X : CallFix p m c cX7_isIn 6 s _ wsX7_isIn RX7 := ⟨hx, hb, hml, hown, hts⟩
  have Z := zz_enter hC
  generalize va_A [] sz = A at Z ⊢
  have hl := lv_entry ([.long (Int32.toInt64 v), .long (Int32.toInt64 lo), .long (Int32.toInt64 hi)]) (n := 6) (Nat.le_of_ble_eq_true rfl)
  rw [lg_entry_eq]
  generalize (lg_sl ([.long (Int32.toInt64 v), .long (Int32.toInt64 lo), .long (Int32.toInt64 hi)]) ++ List.replicate (6 - (lg_sl ([.long (Int32.toInt64 v), .long (Int32.toInt64 lo), .long (Int32.toInt64 hi)])).length) Slot.unset).toArray = ls at hl ⊢
  have hl : lv_has ls 6 [(0, .long (Int32.toInt64 v)), (2, .long (Int32.toInt64 lo)), (4, .long (Int32.toInt64 hi))] := hl
  refine lv_lload_n hx hb dX7_isIn_0 rfl (lv_at hl 0 rfl) ?_
  refine lv_lload_n hx hb dX7_isIn_1 rfl (lv_at hl 1 rfl) ?_
  refine W.lcmp hx hb dX7_isIn_2 ?_
  refine lv_if_lt (tgt := 17) hx hb dX7_isIn_3 (by decide) (fun b1 => ?_) (fun b1 => ?_)
  · refine lv_iconst (v := 0) hx hb dX7_isIn_17 (by decide) ?_
    exact zz_zret X hr hlk Z (by decide) () (zz_wi0a (zz_cl1.mp b1)) [] [] (by decide +kernel) rfl rfl dX7_isIn_18
  · refine lv_lload_n hx hb dX7_isIn_6 rfl (lv_at hl 0 rfl) ?_
    refine lv_lload hx hb dX7_isIn_7 (lv_at hl 2 rfl) ?_
    refine W.lcmp hx hb dX7_isIn_9 ?_
    refine lv_if_gt (tgt := 17) hx hb dX7_isIn_10 (by decide) (fun b2 => ?_) (fun b2 => ?_)
    · refine lv_iconst (v := 0) hx hb dX7_isIn_17 (by decide) ?_
      exact zz_zret X hr hlk Z (by decide) () (zz_wi0b (zz_cl2.mp b2)) [] [] (by decide +kernel) rfl rfl dX7_isIn_18
    · refine lv_iconst (v := 1) hx hb dX7_isIn_13 (by decide) ?_
      refine lv_goto (tgt := 18) hx hb dX7_isIn_14 (by decide) ?_
      exact zz_zret X hr hlk Z (by decide) () (zz_wi1 (fun q => b1 (zz_cl1.mpr q)) (fun q => b2 (zz_cl2.mpr q))) [] [] (by decide +kernel) rfl rfl dX7_isIn_18

set_option maxHeartbeats 4000000 in
set_option maxRecDepth 100000 in
theorem c_orNone (l : Launch) (D : va_G) (v : Int32)  : zz_MI l yX7_orNone wsX7_orNone 0 0 0 0 D [.int v] [] [] (fun (r : Int32) (u : Unit) => r = if v < 0 then (-1000000005) else v) (fun (u : Unit) => []) (fun (u : Unit) => []) := by
  intro sz
  refine Met.ofW (cc := cX7_orNone) (maxL := 1) (ret := (some .int)) (by decide) rfl ?_
  intro p e s m args below meth c s₁ B hml hv
  obtain ⟨rfl, hC⟩ := hv
  have hx := B.exec
  have hb := B.bytes
  have hr := B.returns
  have hts := atoms_spec (ws := wsX7_orNone) B.pre
  have hown : s.vm.findClass RX7 = some m.cls := findClass_of_methodNamed B.named
  have hlk := B.notSynchronized
  have X : CallFix p m c cX7_orNone 1 s _ wsX7_orNone RX7 := ⟨hx, hb, hml, hown, hts⟩
  have Z := zz_enter hC
  generalize va_A [] sz = A at Z ⊢
  have hl := lv_entry ([.int v]) (n := 1) (Nat.le_of_ble_eq_true rfl)
  rw [lg_entry_eq]
  generalize (lg_sl ([.int v]) ++ List.replicate (1 - (lg_sl ([.int v])).length) Slot.unset).toArray = ls at hl ⊢
  have hl : lv_has ls 1 [(0, .int v)] := hl
  refine lv_iload_n hx hb dX7_orNone_0 rfl (lv_at hl 0 rfl) ?_
  refine lv_if_ge (tgt := 9) hx hb dX7_orNone_1 (by decide) (fun b1 => ?_) (fun b1 => ?_)
  · refine lv_iload_n hx hb dX7_orNone_9 rfl (lv_at hl 0 rfl) ?_
    exact zz_iret X hr hlk Z () (if_neg (Int32.not_lt.mpr b1)).symm [] [] (by decide +kernel) rfl rfl dX7_orNone_10
  · refine lv_ldc (v := (-1000000005)) hx hb hown (hts _ (zz_m 1 rfl)) dX7_orNone_4 ?_
    refine lv_goto (tgt := 10) hx hb dX7_orNone_6 (by decide) ?_
    exact zz_iret X hr hlk Z () (if_pos (Int32.not_le.mp b1)).symm [] [] (by decide +kernel) rfl rfl dX7_orNone_10

set_option maxHeartbeats 4000000 in
set_option maxRecDepth 100000 in
theorem c7_within (l : Launch) (D : va_G) (v : Int32) (mx : Int32)  : zz_MI l yX7_within wsX7_within 0 0 0 0 D [.int v, .int mx] [] [] (fun (r : Int32) (u : Unit) => r = zz_hw v mx) (fun (u : Unit) => []) (fun (u : Unit) => []) := by
  intro sz
  refine Met.ofW (cc := cX7_within) (maxL := 2) (ret := (some .int)) (by decide) rfl ?_
  intro p e s m args below meth c s₁ B hml hv
  obtain ⟨rfl, hC⟩ := hv
  have hx := B.exec
  have hb := B.bytes
  have hr := B.returns
  have hts := atoms_spec (ws := wsX7_within) B.pre
  have hown : s.vm.findClass RX7 = some m.cls := findClass_of_methodNamed B.named
  have hlk := B.notSynchronized
  have X : CallFix p m c cX7_within 2 s _ wsX7_within RX7 := ⟨hx, hb, hml, hown, hts⟩
  have Z := zz_enter hC
  generalize va_A [] sz = A at Z ⊢
  have hl := lv_entry ([.int v, .int mx]) (n := 2) (Nat.le_of_ble_eq_true rfl)
  rw [lg_entry_eq]
  generalize (lg_sl ([.int v, .int mx]) ++ List.replicate (2 - (lg_sl ([.int v, .int mx])).length) Slot.unset).toArray = ls at hl ⊢
  have hl : lv_has ls 2 [(0, .int v), (1, .int mx)] := hl
  refine lv_iload_n hx hb dX7_within_0 rfl (lv_at hl 0 rfl) ?_
  refine lv_if_ge (tgt := 8) hx hb dX7_within_1 (by decide) (fun b1 => ?_) (fun b1 => ?_)
  · refine lv_iload_n hx hb dX7_within_8 rfl (lv_at hl 0 rfl) ?_
    refine lv_iload_n hx hb dX7_within_9 rfl (lv_at hl 1 rfl) ?_
    refine lv_icmp_le (tgt := 17) hx hb dX7_within_10 (by decide) (fun b2 => ?_) (fun b2 => ?_)
    · refine lv_iload_n hx hb dX7_within_17 rfl (lv_at hl 0 rfl) ?_
      exact zz_iret X hr hlk Z () ((if_neg (Int32.not_lt.mpr b1)).trans (if_neg (Int32.not_lt.mpr b2))).symm [] [] (by decide +kernel) rfl rfl dX7_within_18
    · refine lv_iload_n hx hb dX7_within_13 rfl (lv_at hl 1 rfl) ?_
      refine lv_goto (tgt := 18) hx hb dX7_within_14 (by decide) ?_
      exact zz_iret X hr hlk Z () ((if_neg (Int32.not_lt.mpr b1)).trans (if_pos (Int32.not_le.mp b2))).symm [] [] (by decide +kernel) rfl rfl dX7_within_18
  · refine lv_iconst (v := 0) hx hb dX7_within_4 (by decide) ?_
    refine lv_goto (tgt := 18) hx hb dX7_within_5 (by decide) ?_
    exact zz_iret X hr hlk Z () (if_pos (Int32.not_le.mp b1)).symm [] [] (by decide +kernel) rfl rfl dX7_within_18

set_option maxHeartbeats 4000000 in
set_option maxRecDepth 100000 in
theorem c7_isSheet (l : Launch) (D : va_G) (v : Int32)  : zz_MI l yX7_isSheet wsX7_isSheet 1 25 0 0 D [.int v] [] [] (fun (r : Int32) (u : Unit) => r = zz_wi v 0 3) (fun (u : Unit) => []) (fun (u : Unit) => []) := by
  intro sz
  refine Met.ofW (cc := cX7_isSheet) (maxL := 1) (ret := (some .boolean)) (by decide) rfl ?_
  intro p e s m args below meth c s₁ B hml hv
  obtain ⟨rfl, hC⟩ := hv
  have hx := B.exec
  have hb := B.bytes
  have hr := B.returns
  have hts := atoms_spec (ws := wsX7_isSheet) B.pre
  have hown : s.vm.findClass RX7 = some m.cls := findClass_of_methodNamed B.named
  have hlk := B.notSynchronized
  have X : CallFix p m c cX7_isSheet 1 s _ wsX7_isSheet RX7 := ⟨hx, hb, hml, hown, hts⟩
  have Z := zz_enter hC
  generalize va_A [] sz = A at Z ⊢
  have hl := lv_entry ([.int v]) (n := 1) (Nat.le_of_ble_eq_true rfl)
  rw [lg_entry_eq]
  generalize (lg_sl ([.int v]) ++ List.replicate (1 - (lg_sl ([.int v])).length) Slot.unset).toArray = ls at hl ⊢
  have hl : lv_has ls 1 [(0, .int v)] := hl
  refine lv_iload_n hx hb dX7_isSheet_0 rfl (lv_at hl 0 rfl) ?_
  refine lv_i2l (v := Int32.toInt64 v) hx hb dX7_isSheet_1 rfl ?_
  refine lv_lconst (v := 0) hx hb dX7_isSheet_2 (by decide) ?_
  refine zz_vl (v := Int32.toInt64 0) (by decide) ?_
  refine lv_ldc2 (v := 3) hx hb hown (hts _ (zz_m 1 rfl)) dX7_isSheet_3 ?_
  refine zz_vl (v := Int32.toInt64 3) (by decide) ?_
  refine zz_ci (WC := []) (TC := []) (WR := []) (TR := []) (k := 0) (n := 0) Z [] [] [] [] rfl rfl (by decide +kernel) (by decide +kernel) (by decide +kernel) rfl rfl (fun Zc => va_runS (As := [.long (Int32.toInt64 v), .long (Int32.toInt64 0), .long (Int32.toInt64 3)]) (rest := []) X (c_isIn l D v 0 3 s.heap.size) (va_cwS 3 hts gX7_isSheet_X7_isIn rfl rfl rfl zh_X7_isIn ⟨Nat.le_of_ble_eq_true rfl, Nat.le_of_ble_eq_true rfl⟩) (zz_pS Zc) rfl rfl hl.1 rfl (lv_room (Nat.le_of_ble_eq_true rfl)) dX7_isSheet_6 ⟨Nat.le_of_ble_eq_true rfl, Nat.le_of_ble_eq_true rfl⟩) rfl rfl (fun r3 u1 H1 locs2 hw2 Z3 => ?_)
  clear Z
  subst r3
  have Z4 : zz_S D A s [] [] H1 locs2 := Z3
  clear Z3
  exact zz_zret X hr hlk Z4 (zz_wiN _ _ _) () rfl [] [] (by decide +kernel) rfl rfl dX7_isSheet_9

set_option maxHeartbeats 4000000 in
set_option maxRecDepth 100000 in
theorem c7_isSlot (l : Launch) (D : va_G) (v : Int32)  : zz_MI l yX7_isSlot wsX7_isSlot 1 25 0 0 D [.int v] [] [] (fun (r : Int32) (u : Unit) => r = zz_wi v 0 4) (fun (u : Unit) => []) (fun (u : Unit) => []) := by
  intro sz
  refine Met.ofW (cc := cX7_isSlot) (maxL := 1) (ret := (some .boolean)) (by decide) rfl ?_
  intro p e s m args below meth c s₁ B hml hv
  obtain ⟨rfl, hC⟩ := hv
  have hx := B.exec
  have hb := B.bytes
  have hr := B.returns
  have hts := atoms_spec (ws := wsX7_isSlot) B.pre
  have hown : s.vm.findClass RX7 = some m.cls := findClass_of_methodNamed B.named
  have hlk := B.notSynchronized
  have X : CallFix p m c cX7_isSlot 1 s _ wsX7_isSlot RX7 := ⟨hx, hb, hml, hown, hts⟩
  have Z := zz_enter hC
  generalize va_A [] sz = A at Z ⊢
  have hl := lv_entry ([.int v]) (n := 1) (Nat.le_of_ble_eq_true rfl)
  rw [lg_entry_eq]
  generalize (lg_sl ([.int v]) ++ List.replicate (1 - (lg_sl ([.int v])).length) Slot.unset).toArray = ls at hl ⊢
  have hl : lv_has ls 1 [(0, .int v)] := hl
  refine lv_iload_n hx hb dX7_isSlot_0 rfl (lv_at hl 0 rfl) ?_
  refine lv_i2l (v := Int32.toInt64 v) hx hb dX7_isSlot_1 rfl ?_
  refine lv_lconst (v := 0) hx hb dX7_isSlot_2 (by decide) ?_
  refine zz_vl (v := Int32.toInt64 0) (by decide) ?_
  refine lv_ldc2 (v := 4) hx hb hown (hts _ (zz_m 1 rfl)) dX7_isSlot_3 ?_
  refine zz_vl (v := Int32.toInt64 4) (by decide) ?_
  refine zz_ci (WC := []) (TC := []) (WR := []) (TR := []) (k := 0) (n := 0) Z [] [] [] [] rfl rfl (by decide +kernel) (by decide +kernel) (by decide +kernel) rfl rfl (fun Zc => va_runS (As := [.long (Int32.toInt64 v), .long (Int32.toInt64 0), .long (Int32.toInt64 4)]) (rest := []) X (c_isIn l D v 0 4 s.heap.size) (va_cwS 3 hts gX7_isSlot_X7_isIn rfl rfl rfl zh_X7_isIn ⟨Nat.le_of_ble_eq_true rfl, Nat.le_of_ble_eq_true rfl⟩) (zz_pS Zc) rfl rfl hl.1 rfl (lv_room (Nat.le_of_ble_eq_true rfl)) dX7_isSlot_6 ⟨Nat.le_of_ble_eq_true rfl, Nat.le_of_ble_eq_true rfl⟩) rfl rfl (fun r3 u1 H1 locs2 hw2 Z3 => ?_)
  clear Z
  subst r3
  have Z4 : zz_S D A s [] [] H1 locs2 := Z3
  clear Z3
  exact zz_zret X hr hlk Z4 (zz_wiN _ _ _) () rfl [] [] (by decide +kernel) rfl rfl dX7_isSlot_9

set_option maxHeartbeats 4000000 in
set_option maxRecDepth 100000 in
theorem c7_isStall (l : Launch) (D : va_G) (mo : Nat) (ms : Nat) (mi : Nat) (ma : Nat) (mts : Nat) (mtz : Nat) (mtn : Nat) (mh : Nat) (mhn : Nat) (mhw : Nat) (mhz : Nat) (mhr : Nat) (mcl : Nat) (mtp : Nat) (mna : Nat) (mpi : Nat) (mca : Nat) (mwa : Nat) (mrd : Nat) (j3 : Int32) (j14 : Int32) (j15 : Int32) (j16 : Int32) (j17 : Int32) (j18 : Int32) (j19 : Int32) (j20 : Int32) (j21 : Int32) (j22 : Int32) (j23 : Int32) (j24 : Int32) (j29 : Int32) (kms : ClassId) (f : (Nat → Int32)) (k : Int32) (af_0 : f 0 = 0) : zz_MI l yX7_isStall wsX7_isStall 1 25 0 0 D [.ref mo, .int k] [(mo, .inr (7, [.ref ms, .ref mi, .ref ma, .int j3, .ref mts, .ref mtz, .ref mtn, .ref mh, .ref mhn, .ref mhw, .ref mhz, .ref mhr, .ref mcl, .ref mtp, .int j14, .int j15, .int j16, .int j17, .int j18, .int j19, .int j20, .int j21, .int j22, .int j23, .int j24, .ref mna, .ref mpi, .ref mca, .ref mwa, .int j29, .ref mrd])), (ms, .inl (kms, 3047, .inl f))] [(kms, .int)] (fun (r : Int32) (u : Unit) => r = 0) (fun (u : Unit) => [(mo, .inr (7, [.ref ms, .ref mi, .ref ma, .int j3, .ref mts, .ref mtz, .ref mtn, .ref mh, .ref mhn, .ref mhw, .ref mhz, .ref mhr, .ref mcl, .ref mtp, .int j14, .int j15, .int j16, .int j17, .int j18, .int j19, .int j20, .int j21, .int j22, .int j23, .int j24, .ref mna, .ref mpi, .ref mca, .ref mwa, .int j29, .ref mrd])), (ms, .inl (kms, 3047, .inl f))]) (fun (u : Unit) => [(kms, .int)]) := by
  intro sz
  refine Met.ofW (cc := cX7_isStall) (maxL := 2) (ret := (some .boolean)) (by decide) rfl ?_
  intro p e s m args below meth c s₁ B hml hv
  obtain ⟨rfl, hC⟩ := hv
  have hx := B.exec
  have hb := B.bytes
  have hr := B.returns
  have hts := atoms_spec (ws := wsX7_isStall) B.pre
  have hown : s.vm.findClass RX7 = some m.cls := findClass_of_methodNamed B.named
  have hlk := B.notSynchronized
  have X : CallFix p m c cX7_isStall 2 s _ wsX7_isStall RX7 := ⟨hx, hb, hml, hown, hts⟩
  have Z := zz_enter hC
  generalize va_A [(mo, .inr (7, [.ref ms, .ref mi, .ref ma, .int j3, .ref mts, .ref mtz, .ref mtn, .ref mh, .ref mhn, .ref mhw, .ref mhz, .ref mhr, .ref mcl, .ref mtp, .int j14, .int j15, .int j16, .int j17, .int j18, .int j19, .int j20, .int j21, .int j22, .int j23, .int j24, .ref mna, .ref mpi, .ref mca, .ref mwa, .int j29, .ref mrd])), (ms, .inl (kms, 3047, .inl f))] sz = A at Z ⊢
  have hl := lv_entry ([.ref mo, .int k]) (n := 2) (Nat.le_of_ble_eq_true rfl)
  rw [lg_entry_eq]
  generalize (lg_sl ([.ref mo, .int k]) ++ List.replicate (2 - (lg_sl ([.ref mo, .int k])).length) Slot.unset).toArray = ls at hl ⊢
  have hl : lv_has ls 2 [(0, .ref mo), (1, .int k)] := hl
  refine lv_iload_n hx hb dX7_isStall_0 rfl (lv_at hl 1 rfl) ?_
  refine lv_i2l (v := Int32.toInt64 k) hx hb dX7_isStall_1 rfl ?_
  refine lv_lconst (v := 0) hx hb dX7_isStall_2 (by decide) ?_
  refine zz_vl (v := Int32.toInt64 0) (by decide) ?_
  refine lv_aload_n hx hb dX7_isStall_3 rfl (lv_at hl 0 rfl) ?_
  refine zz_get X Z 0 rfl rfl (fun w h => List.mem_cons_of_mem _ (List.mem_append_right _ h)) 0 rfl (zz_m 1 rfl) rfl dX7_isStall_4 ?_
  refine lv_iconst (v := 0) hx hb dX7_isStall_7 (by decide) ?_
  refine zz_ild X Z 1 0 rfl rfl (zz_in 0 3047 rfl) dX7_isStall_8 ?_
  refine zz_v (v := 0) af_0 ?_
  refine lv_iconst (v := 1) hx hb dX7_isStall_9 (by decide) ?_
  refine lv_isub hx hb dX7_isStall_10 ?_
  refine zz_v (v := (-1)) (by decide) ?_
  refine lv_i2l (v := Int32.toInt64 (-1)) hx hb dX7_isStall_11 rfl ?_
  refine zz_ci (WC := []) (TC := []) (WR := [(mo, .inr (7, [.ref ms, .ref mi, .ref ma, .int j3, .ref mts, .ref mtz, .ref mtn, .ref mh, .ref mhn, .ref mhw, .ref mhz, .ref mhr, .ref mcl, .ref mtp, .int j14, .int j15, .int j16, .int j17, .int j18, .int j19, .int j20, .int j21, .int j22, .int j23, .int j24, .ref mna, .ref mpi, .ref mca, .ref mwa, .int j29, .ref mrd])), (ms, .inl (kms, 3047, .inl f))]) (TR := [(kms, .int)]) (k := 0) (n := 0) Z [] [0, 1] [] [0] rfl rfl (by decide +kernel) (by decide +kernel) (by decide +kernel) rfl rfl (fun Zc => va_runS (As := [.long (Int32.toInt64 k), .long (Int32.toInt64 0), .long (Int32.toInt64 (-1))]) (rest := []) X (c_isIn l D k 0 (-1) s.heap.size) (va_cwS 3 hts gX7_isStall_X7_isIn rfl rfl rfl zh_X7_isIn ⟨Nat.le_of_ble_eq_true rfl, Nat.le_of_ble_eq_true rfl⟩) (zz_pS Zc) rfl rfl hl.1 rfl (lv_room (Nat.le_of_ble_eq_true rfl)) dX7_isStall_12 ⟨Nat.le_of_ble_eq_true rfl, Nat.le_of_ble_eq_true rfl⟩) rfl rfl (fun r3 u1 H1 locs2 hw2 Z3 => ?_)
  clear Z
  subst r3
  have Z4 : zz_S D A s [(mo, .inr (7, [.ref ms, .ref mi, .ref ma, .int j3, .ref mts, .ref mtz, .ref mtn, .ref mh, .ref mhn, .ref mhw, .ref mhz, .ref mhr, .ref mcl, .ref mtp, .int j14, .int j15, .int j16, .int j17, .int j18, .int j19, .int j20, .int j21, .int j22, .int j23, .int j24, .ref mna, .ref mpi, .ref mca, .ref mwa, .int j29, .ref mrd])), (ms, .inl (kms, 3047, .inl f))] [(kms, .int)] H1 locs2 := Z3
  clear Z3
  refine zz_v (v := 0) (zz_wiF (zz_no k)) ?_
  exact zz_zret X hr hlk Z4 (by decide) () rfl [0, 1] [0] (by decide +kernel) rfl rfl dX7_isStall_15

set_option maxHeartbeats 4000000 in
set_option maxRecDepth 100000 in
theorem c7_isText (l : Launch) (D : va_G) (mo : Nat) (ms : Nat) (mi : Nat) (ma : Nat) (mts : Nat) (mtz : Nat) (mtn : Nat) (mh : Nat) (mhn : Nat) (mhw : Nat) (mhz : Nat) (mhr : Nat) (mcl : Nat) (mtp : Nat) (mna : Nat) (mpi : Nat) (mca : Nat) (mwa : Nat) (mrd : Nat) (j3 : Int32) (j14 : Int32) (j15 : Int32) (j16 : Int32) (j17 : Int32) (j18 : Int32) (j19 : Int32) (j20 : Int32) (j21 : Int32) (j22 : Int32) (j23 : Int32) (j24 : Int32) (j29 : Int32) (kms : ClassId) (f : (Nat → Int32)) (k : Int32) (af_1 : f 1 = 0) : zz_MI l yX7_isText wsX7_isText 1 25 0 0 D [.ref mo, .int k] [(mo, .inr (7, [.ref ms, .ref mi, .ref ma, .int j3, .ref mts, .ref mtz, .ref mtn, .ref mh, .ref mhn, .ref mhw, .ref mhz, .ref mhr, .ref mcl, .ref mtp, .int j14, .int j15, .int j16, .int j17, .int j18, .int j19, .int j20, .int j21, .int j22, .int j23, .int j24, .ref mna, .ref mpi, .ref mca, .ref mwa, .int j29, .ref mrd])), (ms, .inl (kms, 3047, .inl f))] [(kms, .int)] (fun (r : Int32) (u : Unit) => r = 0) (fun (u : Unit) => [(mo, .inr (7, [.ref ms, .ref mi, .ref ma, .int j3, .ref mts, .ref mtz, .ref mtn, .ref mh, .ref mhn, .ref mhw, .ref mhz, .ref mhr, .ref mcl, .ref mtp, .int j14, .int j15, .int j16, .int j17, .int j18, .int j19, .int j20, .int j21, .int j22, .int j23, .int j24, .ref mna, .ref mpi, .ref mca, .ref mwa, .int j29, .ref mrd])), (ms, .inl (kms, 3047, .inl f))]) (fun (u : Unit) => [(kms, .int)]) := by
  intro sz
  refine Met.ofW (cc := cX7_isText) (maxL := 2) (ret := (some .boolean)) (by decide) rfl ?_
  intro p e s m args below meth c s₁ B hml hv
  obtain ⟨rfl, hC⟩ := hv
  have hx := B.exec
  have hb := B.bytes
  have hr := B.returns
  have hts := atoms_spec (ws := wsX7_isText) B.pre
  have hown : s.vm.findClass RX7 = some m.cls := findClass_of_methodNamed B.named
  have hlk := B.notSynchronized
  have X : CallFix p m c cX7_isText 2 s _ wsX7_isText RX7 := ⟨hx, hb, hml, hown, hts⟩
  have Z := zz_enter hC
  generalize va_A [(mo, .inr (7, [.ref ms, .ref mi, .ref ma, .int j3, .ref mts, .ref mtz, .ref mtn, .ref mh, .ref mhn, .ref mhw, .ref mhz, .ref mhr, .ref mcl, .ref mtp, .int j14, .int j15, .int j16, .int j17, .int j18, .int j19, .int j20, .int j21, .int j22, .int j23, .int j24, .ref mna, .ref mpi, .ref mca, .ref mwa, .int j29, .ref mrd])), (ms, .inl (kms, 3047, .inl f))] sz = A at Z ⊢
  have hl := lv_entry ([.ref mo, .int k]) (n := 2) (Nat.le_of_ble_eq_true rfl)
  rw [lg_entry_eq]
  generalize (lg_sl ([.ref mo, .int k]) ++ List.replicate (2 - (lg_sl ([.ref mo, .int k])).length) Slot.unset).toArray = ls at hl ⊢
  have hl : lv_has ls 2 [(0, .ref mo), (1, .int k)] := hl
  refine lv_iload_n hx hb dX7_isText_0 rfl (lv_at hl 1 rfl) ?_
  refine lv_i2l (v := Int32.toInt64 k) hx hb dX7_isText_1 rfl ?_
  refine lv_lconst (v := 0) hx hb dX7_isText_2 (by decide) ?_
  refine zz_vl (v := Int32.toInt64 0) (by decide) ?_
  refine lv_aload_n hx hb dX7_isText_3 rfl (lv_at hl 0 rfl) ?_
  refine zz_get X Z 0 rfl rfl (fun w h => List.mem_cons_of_mem _ (List.mem_append_right _ h)) 0 rfl (zz_m 1 rfl) rfl dX7_isText_4 ?_
  refine lv_iconst (v := 1) hx hb dX7_isText_7 (by decide) ?_
  refine zz_ild X Z 1 0 rfl rfl (zz_in 1 3047 rfl) dX7_isText_8 ?_
  refine zz_v (v := 0) af_1 ?_
  refine lv_iconst (v := 1) hx hb dX7_isText_9 (by decide) ?_
  refine lv_isub hx hb dX7_isText_10 ?_
  refine zz_v (v := (-1)) (by decide) ?_
  refine lv_i2l (v := Int32.toInt64 (-1)) hx hb dX7_isText_11 rfl ?_
  refine zz_ci (WC := []) (TC := []) (WR := [(mo, .inr (7, [.ref ms, .ref mi, .ref ma, .int j3, .ref mts, .ref mtz, .ref mtn, .ref mh, .ref mhn, .ref mhw, .ref mhz, .ref mhr, .ref mcl, .ref mtp, .int j14, .int j15, .int j16, .int j17, .int j18, .int j19, .int j20, .int j21, .int j22, .int j23, .int j24, .ref mna, .ref mpi, .ref mca, .ref mwa, .int j29, .ref mrd])), (ms, .inl (kms, 3047, .inl f))]) (TR := [(kms, .int)]) (k := 0) (n := 0) Z [] [0, 1] [] [0] rfl rfl (by decide +kernel) (by decide +kernel) (by decide +kernel) rfl rfl (fun Zc => va_runS (As := [.long (Int32.toInt64 k), .long (Int32.toInt64 0), .long (Int32.toInt64 (-1))]) (rest := []) X (c_isIn l D k 0 (-1) s.heap.size) (va_cwS 3 hts gX7_isText_X7_isIn rfl rfl rfl zh_X7_isIn ⟨Nat.le_of_ble_eq_true rfl, Nat.le_of_ble_eq_true rfl⟩) (zz_pS Zc) rfl rfl hl.1 rfl (lv_room (Nat.le_of_ble_eq_true rfl)) dX7_isText_12 ⟨Nat.le_of_ble_eq_true rfl, Nat.le_of_ble_eq_true rfl⟩) rfl rfl (fun r3 u1 H1 locs2 hw2 Z3 => ?_)
  clear Z
  subst r3
  have Z4 : zz_S D A s [(mo, .inr (7, [.ref ms, .ref mi, .ref ma, .int j3, .ref mts, .ref mtz, .ref mtn, .ref mh, .ref mhn, .ref mhw, .ref mhz, .ref mhr, .ref mcl, .ref mtp, .int j14, .int j15, .int j16, .int j17, .int j18, .int j19, .int j20, .int j21, .int j22, .int j23, .int j24, .ref mna, .ref mpi, .ref mca, .ref mwa, .int j29, .ref mrd])), (ms, .inl (kms, 3047, .inl f))] [(kms, .int)] H1 locs2 := Z3
  clear Z3
  refine zz_v (v := 0) (zz_wiF (zz_no k)) ?_
  exact zz_zret X hr hlk Z4 (by decide) () rfl [0, 1] [0] (by decide +kernel) rfl rfl dX7_isText_15

set_option maxHeartbeats 4000000 in
set_option maxRecDepth 100000 in
theorem c7_counts (l : Launch) (D : va_G) (mo : Nat) (ms : Nat) (mi : Nat) (ma : Nat) (mts : Nat) (mtz : Nat) (mtn : Nat) (mh : Nat) (mhn : Nat) (mhw : Nat) (mhz : Nat) (mhr : Nat) (mcl : Nat) (mtp : Nat) (mna : Nat) (mpi : Nat) (mca : Nat) (mwa : Nat) (mrd : Nat) (j3 : Int32) (j14 : Int32) (j15 : Int32) (j16 : Int32) (j17 : Int32) (j18 : Int32) (j19 : Int32) (j20 : Int32) (j21 : Int32) (j22 : Int32) (j23 : Int32) (j24 : Int32) (j29 : Int32) (kms : ClassId) (f : (Nat → Int32)) (k : Int32) (af_1 : f 1 = 0) : zz_MI l yX7_counts wsX7_counts 0 0 0 0 D [.ref mo, .int k] [(mo, .inr (7, [.ref ms, .ref mi, .ref ma, .int j3, .ref mts, .ref mtz, .ref mtn, .ref mh, .ref mhn, .ref mhw, .ref mhz, .ref mhr, .ref mcl, .ref mtp, .int j14, .int j15, .int j16, .int j17, .int j18, .int j19, .int j20, .int j21, .int j22, .int j23, .int j24, .ref mna, .ref mpi, .ref mca, .ref mwa, .int j29, .ref mrd])), (ms, .inl (kms, 3047, .inl f))] [(kms, .int)] (fun (r : Int32) (u : Unit) => r = (-1)) (fun (u : Unit) => [(mo, .inr (7, [.ref ms, .ref mi, .ref ma, .int j3, .ref mts, .ref mtz, .ref mtn, .ref mh, .ref mhn, .ref mhw, .ref mhz, .ref mhr, .ref mcl, .ref mtp, .int j14, .int j15, .int j16, .int j17, .int j18, .int j19, .int j20, .int j21, .int j22, .int j23, .int j24, .ref mna, .ref mpi, .ref mca, .ref mwa, .int j29, .ref mrd])), (ms, .inl (kms, 3047, .inl f))]) (fun (u : Unit) => [(kms, .int)]) := by
  intro sz
  refine Met.ofW (cc := cX7_counts) (maxL := 4) (ret := (some .int)) (by decide) rfl ?_
  intro p e s m args below meth c s₁ B hml hv
  obtain ⟨rfl, hC⟩ := hv
  have hx := B.exec
  have hb := B.bytes
  have hr := B.returns
  have hts := atoms_spec (ws := wsX7_counts) B.pre
  have hown : s.vm.findClass RX7 = some m.cls := findClass_of_methodNamed B.named
  have hlk := B.notSynchronized
  have X : CallFix p m c cX7_counts 4 s _ wsX7_counts RX7 := ⟨hx, hb, hml, hown, hts⟩
  have Z := zz_enter hC
  generalize va_A [(mo, .inr (7, [.ref ms, .ref mi, .ref ma, .int j3, .ref mts, .ref mtz, .ref mtn, .ref mh, .ref mhn, .ref mhw, .ref mhz, .ref mhr, .ref mcl, .ref mtp, .int j14, .int j15, .int j16, .int j17, .int j18, .int j19, .int j20, .int j21, .int j22, .int j23, .int j24, .ref mna, .ref mpi, .ref mca, .ref mwa, .int j29, .ref mrd])), (ms, .inl (kms, 3047, .inl f))] sz = A at Z ⊢
  have hl := lv_entry ([.ref mo, .int k]) (n := 4) (Nat.le_of_ble_eq_true rfl)
  rw [lg_entry_eq]
  generalize (lg_sl ([.ref mo, .int k]) ++ List.replicate (4 - (lg_sl ([.ref mo, .int k])).length) Slot.unset).toArray = ls at hl ⊢
  have hl : lv_has ls 4 [(0, .ref mo), (1, .int k)] := hl
  refine lv_iconst (v := (-1)) hx hb dX7_counts_0 (by decide) ?_
  refine lv_istore_n (lv' := [(2, .int (-1)), (0, .ref mo), (1, .int k)]) hx hb dX7_counts_1 rfl hl (by decide) rfl (fun ls1 hl2 => ?_)
  clear hl
  refine lv_iconst (v := 0) hx hb dX7_counts_2 (by decide) ?_
  refine lv_istore_n (lv' := [(3, .int 0), (2, .int (-1)), (0, .ref mo), (1, .int k)]) hx hb dX7_counts_3 rfl hl2 (by decide) rfl (fun ls3 hl4 => ?_)
  clear hl2
  refine lv_iload_n hx hb dX7_counts_4 rfl (lv_at hl4 0 rfl) ?_
  refine lv_aload_n hx hb dX7_counts_5 rfl (lv_at hl4 2 rfl) ?_
  refine zz_get X Z 0 rfl rfl (fun w h => List.mem_cons_of_mem _ (List.mem_append_right _ h)) 0 rfl (zz_m 1 rfl) rfl dX7_counts_6 ?_
  refine lv_iconst (v := 1) hx hb dX7_counts_9 (by decide) ?_
  refine zz_ild X Z 1 0 rfl rfl (zz_in 1 3047 rfl) dX7_counts_10 ?_
  refine zz_v (v := 0) af_1 ?_
  refine lv_icmp_ge (tgt := 40) hx hb dX7_counts_11 (by decide) (fun _ => ?_) (fun h => absurd (by decide) h)
  refine lv_iload_n hx hb dX7_counts_40 rfl (lv_at hl4 1 rfl) ?_
  exact zz_iret X hr hlk Z () rfl [0, 1] [0] (by decide +kernel) rfl rfl dX7_counts_41

set_option maxHeartbeats 4000000 in
set_option maxRecDepth 100000 in
theorem c7_drawn (l : Launch) (D : va_G) (mo : Nat) (ms : Nat) (mi : Nat) (ma : Nat) (mts : Nat) (mtz : Nat) (mtn : Nat) (mh : Nat) (mhn : Nat) (mhw : Nat) (mhz : Nat) (mhr : Nat) (mcl : Nat) (mtp : Nat) (mna : Nat) (mpi : Nat) (mca : Nat) (mwa : Nat) (mrd : Nat) (j3 : Int32) (j14 : Int32) (j15 : Int32) (j16 : Int32) (j17 : Int32) (j18 : Int32) (j19 : Int32) (j20 : Int32) (j21 : Int32) (j22 : Int32) (j23 : Int32) (j24 : Int32) (j29 : Int32) (kms : ClassId) (f : (Nat → Int32)) (a0 : Int32) (a1 : Int32) (a2 : Int32) (a3 : Int32) (a4 : Int32) (a5 : Int32) (a6 : Int32) (a7 : Int32) (a8 : Int32) (a9 : Int32) (a10 : Int32) (af_0 : f 0 = a0) (af_1 : f 1 = a1) (af_2 : f 2 = a2) (af_3 : f 3 = a3) (af_4 : f 4 = a4) (af_5 : f 5 = a5) (af_6 : f 6 = a6) (af_7 : f 7 = a7) (af_8 : f 8 = a8) (af_9 : f 9 = a9) (af_10 : f 10 = a10) : zz_MI l yX7_drawn wsX7_drawn 0 0 0 0 D [.ref mo] [(mo, .inr (7, [.ref ms, .ref mi, .ref ma, .int j3, .ref mts, .ref mtz, .ref mtn, .ref mh, .ref mhn, .ref mhw, .ref mhz, .ref mhr, .ref mcl, .ref mtp, .int j14, .int j15, .int j16, .int j17, .int j18, .int j19, .int j20, .int j21, .int j22, .int j23, .int j24, .ref mna, .ref mpi, .ref mca, .ref mwa, .int j29, .ref mrd])), (ms, .inl (kms, 3047, .inl f))] [(kms, .int)] (fun (r : Int32) (f9 : (Nat → Int32)) => (f9 0 = a0 ∧ f9 1 = a1 ∧ f9 2 = a2 ∧ f9 3 = a3 ∧ f9 4 = a4 ∧ f9 5 = a5 ∧ f9 6 = zz_nz a6 ∧ f9 7 = a7 ∧ f9 8 = a8 ∧ f9 9 = a9 ∧ f9 10 = a10) ∧ (r = zz_dr a6)) (fun (f9 : (Nat → Int32)) => [(mo, .inr (7, [.ref ms, .ref mi, .ref ma, .int j3, .ref mts, .ref mtz, .ref mtn, .ref mh, .ref mhn, .ref mhw, .ref mhz, .ref mhr, .ref mcl, .ref mtp, .int j14, .int j15, .int j16, .int j17, .int j18, .int j19, .int j20, .int j21, .int j22, .int j23, .int j24, .ref mna, .ref mpi, .ref mca, .ref mwa, .int j29, .ref mrd])), (ms, .inl (kms, 3047, .inl f9))]) (fun (f9 : (Nat → Int32)) => [(kms, .int)]) := by
  intro sz
  refine Met.ofW (cc := cX7_drawn) (maxL := 1) (ret := (some .int)) (by decide) rfl ?_
  intro p e s m args below meth c s₁ B hml hv
  obtain ⟨rfl, hC⟩ := hv
  have hx := B.exec
  have hb := B.bytes
  have hr := B.returns
  have hts := atoms_spec (ws := wsX7_drawn) B.pre
  have hown : s.vm.findClass RX7 = some m.cls := findClass_of_methodNamed B.named
  have hlk := B.notSynchronized
  have X : CallFix p m c cX7_drawn 1 s _ wsX7_drawn RX7 := ⟨hx, hb, hml, hown, hts⟩
  have Z := zz_enter hC
  generalize va_A [(mo, .inr (7, [.ref ms, .ref mi, .ref ma, .int j3, .ref mts, .ref mtz, .ref mtn, .ref mh, .ref mhn, .ref mhw, .ref mhz, .ref mhr, .ref mcl, .ref mtp, .int j14, .int j15, .int j16, .int j17, .int j18, .int j19, .int j20, .int j21, .int j22, .int j23, .int j24, .ref mna, .ref mpi, .ref mca, .ref mwa, .int j29, .ref mrd])), (ms, .inl (kms, 3047, .inl f))] sz = A at Z ⊢
  have hl := lv_entry ([.ref mo]) (n := 1) (Nat.le_of_ble_eq_true rfl)
  rw [lg_entry_eq]
  generalize (lg_sl ([.ref mo]) ++ List.replicate (1 - (lg_sl ([.ref mo])).length) Slot.unset).toArray = ls at hl ⊢
  have hl : lv_has ls 1 [(0, .ref mo)] := hl
  refine lv_aload_n hx hb dX7_drawn_0 rfl (lv_at hl 0 rfl) ?_
  refine zz_get X Z 0 rfl rfl (fun w h => List.mem_cons_of_mem _ (List.mem_append_right _ h)) 0 rfl (zz_m 1 rfl) rfl dX7_drawn_1 ?_
  refine lv_bipush (v := 6) hx hb dX7_drawn_4 (by decide) ?_
  refine lv_aload_n hx hb dX7_drawn_6 rfl (lv_at hl 0 rfl) ?_
  refine zz_get X Z 0 rfl rfl (fun w h => List.mem_cons_of_mem _ (List.mem_append_right _ h)) 0 rfl (zz_m 1 rfl) rfl dX7_drawn_7 ?_
  refine lv_bipush (v := 6) hx hb dX7_drawn_10 (by decide) ?_
  refine zz_ild X Z 1 0 rfl rfl (zz_in 6 3047 rfl) dX7_drawn_12 ?_
  refine zz_v (v := a6) af_6 ?_
  refine lv_ldc (v := 1103515245) hx hb hown (hts _ (zz_m 2 rfl)) dX7_drawn_13 ?_
  refine lv_imul hx hb dX7_drawn_15 ?_
  refine lv_sipush (v := 12345) hx hb dX7_drawn_16 (by decide) ?_
  refine lv_iadd hx hb dX7_drawn_19 ?_
  refine zz_istN (WS' := fun f1 => [(mo, .inr (7, [.ref ms, .ref mi, .ref ma, .int j3, .ref mts, .ref mtz, .ref mtn, .ref mh, .ref mhn, .ref mhw, .ref mhz, .ref mhr, .ref mcl, .ref mtp, .int j14, .int j15, .int j16, .int j17, .int j18, .int j19, .int j20, .int j21, .int j22, .int j23, .int j24, .ref mna, .ref mpi, .ref mca, .ref mwa, .int j29, .ref mrd])), (ms, .inl (kms, 3047, .inl f1))]) X Z 1 0 rfl rfl (zz_in 6 3047 rfl) dX7_drawn_20 (fun _ => rfl) (fun f1 ef2 H1 locs2 Z3 => ?_)
  clear Z
  have p3 : f1 6 = (a6 * 1103515245) + 12345 := (by rw [ef2]; rfl)
  have p4 : f1 0 = a0 := (by rw [ef2]; exact af_0)
  have p5 : f1 1 = a1 := (by rw [ef2]; exact af_1)
  have p6 : f1 2 = a2 := (by rw [ef2]; exact af_2)
  have p7 : f1 3 = a3 := (by rw [ef2]; exact af_3)
  have p8 : f1 4 = a4 := (by rw [ef2]; exact af_4)
  have p9 : f1 5 = a5 := (by rw [ef2]; exact af_5)
  have p10 : f1 7 = a7 := (by rw [ef2]; exact af_7)
  have p11 : f1 8 = a8 := (by rw [ef2]; exact af_8)
  have p12 : f1 9 = a9 := (by rw [ef2]; exact af_9)
  have p13 : f1 10 = a10 := (by rw [ef2]; exact af_10)
  refine lv_aload_n hx hb dX7_drawn_21 rfl (lv_at hl 0 rfl) ?_
  refine zz_get X Z3 0 rfl rfl (fun w h => List.mem_cons_of_mem _ (List.mem_append_right _ h)) 0 rfl (zz_m 1 rfl) rfl dX7_drawn_22 ?_
  refine lv_bipush (v := 6) hx hb dX7_drawn_25 (by decide) ?_
  refine zz_ild X Z3 1 0 rfl rfl (zz_in 6 3047 rfl) dX7_drawn_27 ?_
  refine zz_v (v := (a6 * 1103515245) + 12345) p3 ?_
  refine lv_bipush (v := 8) hx hb dX7_drawn_28 (by decide) ?_
  refine lv_iushr (v := (Int32.toUInt32 ((a6 * 1103515245) + 12345) >>> (Int32.toUInt32 8 &&& Int32.toUInt32 31)).toInt32) hx hb dX7_drawn_30 rfl ?_
  exact zz_iret X hr hlk Z3 (f1) ⟨⟨p4, p5, p6, p7, p8, p9, p3, p10, p11, p12, p13⟩, rfl⟩ [0, 1] [0] (by decide +kernel) rfl rfl dX7_drawn_31

set_option maxHeartbeats 4000000 in
set_option maxRecDepth 100000 in
theorem c7_holds (l : Launch) (D : va_G) (mo : Nat) (ms : Nat) (mi : Nat) (ma : Nat) (mts : Nat) (mtz : Nat) (mtn : Nat) (mh : Nat) (mhn : Nat) (mhw : Nat) (mhz : Nat) (mhr : Nat) (mcl : Nat) (mtp : Nat) (mna : Nat) (mpi : Nat) (mca : Nat) (mwa : Nat) (mrd : Nat) (j3 : Int32) (j14 : Int32) (j15 : Int32) (j16 : Int32) (j17 : Int32) (j18 : Int32) (j19 : Int32) (j20 : Int32) (j21 : Int32) (j22 : Int32) (j23 : Int32) (j24 : Int32) (j29 : Int32) (kms : ClassId) (f : (Nat → Int32)) (a0 : Int32) (a1 : Int32) (a2 : Int32) (a3 : Int32) (a4 : Int32) (a5 : Int32) (a6 : Int32) (a7 : Int32) (a8 : Int32) (a9 : Int32) (a10 : Int32) (af_0 : f 0 = a0) (af_1 : f 1 = a1) (af_2 : f 2 = a2) (af_3 : f 3 = a3) (af_4 : f 4 = a4) (af_5 : f 5 = a5) (af_6 : f 6 = a6) (af_7 : f 7 = a7) (af_8 : f 8 = a8) (af_9 : f 9 = a9) (af_10 : f 10 = a10) : zz_MV l yX7_holds wsX7_holds 1 21 0 0 D [.ref mo] [(mo, .inr (7, [.ref ms, .ref mi, .ref ma, .int j3, .ref mts, .ref mtz, .ref mtn, .ref mh, .ref mhn, .ref mhw, .ref mhz, .ref mhr, .ref mcl, .ref mtp, .int j14, .int j15, .int j16, .int j17, .int j18, .int j19, .int j20, .int j21, .int j22, .int j23, .int j24, .ref mna, .ref mpi, .ref mca, .ref mwa, .int j29, .ref mrd])), (ms, .inl (kms, 3047, .inl f))] [(kms, .int)] (fun (f9 : (Nat → Int32)) => (f9 0 = a0 ∧ f9 1 = a1 ∧ f9 2 = a2 ∧ f9 3 = a3 ∧ f9 4 = a4 ∧ f9 5 = a5 ∧ f9 6 = a6 ∧ f9 7 = zz_hw a7 (12 - a8) ∧ f9 8 = a8 ∧ f9 9 = a9 ∧ f9 10 = a10) ∧ (True)) (fun (f9 : (Nat → Int32)) => [(mo, .inr (7, [.ref ms, .ref mi, .ref ma, .int j3, .ref mts, .ref mtz, .ref mtn, .ref mh, .ref mhn, .ref mhw, .ref mhz, .ref mhr, .ref mcl, .ref mtp, .int j14, .int j15, .int j16, .int j17, .int j18, .int j19, .int j20, .int j21, .int j22, .int j23, .int j24, .ref mna, .ref mpi, .ref mca, .ref mwa, .int j29, .ref mrd])), (ms, .inl (kms, 3047, .inl f9))]) (fun (f9 : (Nat → Int32)) => [(kms, .int)]) := by
  intro sz
  refine Met.ofW (cc := cX7_holds) (maxL := 1) (ret := none) (by decide) rfl ?_
  intro p e s m args below meth c s₁ B hml hv
  obtain ⟨rfl, hC⟩ := hv
  have hx := B.exec
  have hb := B.bytes
  have hr := B.returns
  have hts := atoms_spec (ws := wsX7_holds) B.pre
  have hown : s.vm.findClass RX7 = some m.cls := findClass_of_methodNamed B.named
  have hlk := B.notSynchronized
  have X : CallFix p m c cX7_holds 1 s _ wsX7_holds RX7 := ⟨hx, hb, hml, hown, hts⟩
  have Z := zz_enter hC
  generalize va_A [(mo, .inr (7, [.ref ms, .ref mi, .ref ma, .int j3, .ref mts, .ref mtz, .ref mtn, .ref mh, .ref mhn, .ref mhw, .ref mhz, .ref mhr, .ref mcl, .ref mtp, .int j14, .int j15, .int j16, .int j17, .int j18, .int j19, .int j20, .int j21, .int j22, .int j23, .int j24, .ref mna, .ref mpi, .ref mca, .ref mwa, .int j29, .ref mrd])), (ms, .inl (kms, 3047, .inl f))] sz = A at Z ⊢
  have hl := lv_entry ([.ref mo]) (n := 1) (Nat.le_of_ble_eq_true rfl)
  rw [lg_entry_eq]
  generalize (lg_sl ([.ref mo]) ++ List.replicate (1 - (lg_sl ([.ref mo])).length) Slot.unset).toArray = ls at hl ⊢
  have hl : lv_has ls 1 [(0, .ref mo)] := hl
  refine lv_aload_n hx hb dX7_holds_0 rfl (lv_at hl 0 rfl) ?_
  refine zz_get X Z 0 rfl rfl (fun w h => List.mem_cons_of_mem _ (List.mem_append_right _ h)) 0 rfl (zz_m 1 rfl) rfl dX7_holds_1 ?_
  refine lv_bipush (v := 7) hx hb dX7_holds_4 (by decide) ?_
  refine lv_aload_n hx hb dX7_holds_6 rfl (lv_at hl 0 rfl) ?_
  refine zz_get X Z 0 rfl rfl (fun w h => List.mem_cons_of_mem _ (List.mem_append_right _ h)) 0 rfl (zz_m 1 rfl) rfl dX7_holds_7 ?_
  refine lv_bipush (v := 7) hx hb dX7_holds_10 (by decide) ?_
  refine zz_ild X Z 1 0 rfl rfl (zz_in 7 3047 rfl) dX7_holds_12 ?_
  refine zz_v (v := a7) af_7 ?_
  refine lv_bipush (v := 12) hx hb dX7_holds_13 (by decide) ?_
  refine lv_aload_n hx hb dX7_holds_15 rfl (lv_at hl 0 rfl) ?_
  refine zz_get X Z 0 rfl rfl (fun w h => List.mem_cons_of_mem _ (List.mem_append_right _ h)) 0 rfl (zz_m 1 rfl) rfl dX7_holds_16 ?_
  refine lv_bipush (v := 8) hx hb dX7_holds_19 (by decide) ?_
  refine zz_ild X Z 1 0 rfl rfl (zz_in 8 3047 rfl) dX7_holds_21 ?_
  refine zz_v (v := a8) af_8 ?_
  refine lv_isub hx hb dX7_holds_22 ?_
  refine zz_ci (WC := []) (TC := []) (WR := [(mo, .inr (7, [.ref ms, .ref mi, .ref ma, .int j3, .ref mts, .ref mtz, .ref mtn, .ref mh, .ref mhn, .ref mhw, .ref mhz, .ref mhr, .ref mcl, .ref mtp, .int j14, .int j15, .int j16, .int j17, .int j18, .int j19, .int j20, .int j21, .int j22, .int j23, .int j24, .ref mna, .ref mpi, .ref mca, .ref mwa, .int j29, .ref mrd])), (ms, .inl (kms, 3047, .inl f))]) (TR := [(kms, .int)]) (k := 0) (n := 0) Z [] [0, 1] [] [0] rfl rfl (by decide +kernel) (by decide +kernel) (by decide +kernel) rfl rfl (fun Zc => va_runS (As := [.int a7, .int (12 - a8)]) (rest := [.int 7, .ref ms]) X (c7_within l D a7 (12 - a8) s.heap.size) (va_cwS 2 hts gX7_holds_X7_within rfl rfl rfl zh_X7_within ⟨Nat.le_of_ble_eq_true rfl, Nat.le_of_ble_eq_true rfl⟩) (zz_pS Zc) rfl rfl hl.1 rfl (lv_room (Nat.le_of_ble_eq_true rfl)) dX7_holds_23 ⟨Nat.le_of_ble_eq_true rfl, Nat.le_of_ble_eq_true rfl⟩) rfl rfl (fun r3 u1 H1 locs2 hw2 Z3 => ?_)
  clear Z
  subst r3
  have Z4 : zz_S D A s [(mo, .inr (7, [.ref ms, .ref mi, .ref ma, .int j3, .ref mts, .ref mtz, .ref mtn, .ref mh, .ref mhn, .ref mhw, .ref mhz, .ref mhr, .ref mcl, .ref mtp, .int j14, .int j15, .int j16, .int j17, .int j18, .int j19, .int j20, .int j21, .int j22, .int j23, .int j24, .ref mna, .ref mpi, .ref mca, .ref mwa, .int j29, .ref mrd])), (ms, .inl (kms, 3047, .inl f))] [(kms, .int)] H1 locs2 := Z3
  clear Z3
  refine zz_istN (WS' := fun f4 => [(mo, .inr (7, [.ref ms, .ref mi, .ref ma, .int j3, .ref mts, .ref mtz, .ref mtn, .ref mh, .ref mhn, .ref mhw, .ref mhz, .ref mhr, .ref mcl, .ref mtp, .int j14, .int j15, .int j16, .int j17, .int j18, .int j19, .int j20, .int j21, .int j22, .int j23, .int j24, .ref mna, .ref mpi, .ref mca, .ref mwa, .int j29, .ref mrd])), (ms, .inl (kms, 3047, .inl f4))]) X Z4 1 0 rfl rfl (zz_in 7 3047 rfl) dX7_holds_26 (fun _ => rfl) (fun f4 ef5 H5 locs6 Z7 => ?_)
  clear Z4
  have p6 : f4 7 = zz_hw a7 (12 - a8) := (by rw [ef5]; rfl)
  have p7 : f4 0 = a0 := (by rw [ef5]; exact af_0)
  have p8 : f4 1 = a1 := (by rw [ef5]; exact af_1)
  have p9 : f4 2 = a2 := (by rw [ef5]; exact af_2)
  have p10 : f4 3 = a3 := (by rw [ef5]; exact af_3)
  have p11 : f4 4 = a4 := (by rw [ef5]; exact af_4)
  have p12 : f4 5 = a5 := (by rw [ef5]; exact af_5)
  have p13 : f4 6 = a6 := (by rw [ef5]; exact af_6)
  have p14 : f4 8 = a8 := (by rw [ef5]; exact af_8)
  have p15 : f4 9 = a9 := (by rw [ef5]; exact af_9)
  have p16 : f4 10 = a10 := (by rw [ef5]; exact af_10)
  exact zz_vret X hr hlk Z7 (f4) ⟨⟨p7, p8, p9, p10, p11, p12, p13, p6, p14, p15, p16⟩, trivial⟩ [0, 1] [0] (by decide +kernel) rfl rfl dX7_holds_27

set_option maxHeartbeats 4000000 in
set_option maxRecDepth 100000 in
theorem c7_hauls (l : Launch) (D : va_G) (mo : Nat) (ms : Nat) (mi : Nat) (ma : Nat) (mts : Nat) (mtz : Nat) (mtn : Nat) (mh : Nat) (mhn : Nat) (mhw : Nat) (mhz : Nat) (mhr : Nat) (mcl : Nat) (mtp : Nat) (mna : Nat) (mpi : Nat) (mca : Nat) (mwa : Nat) (mrd : Nat) (j3 : Int32) (j14 : Int32) (j15 : Int32) (j16 : Int32) (j17 : Int32) (j18 : Int32) (j19 : Int32) (j20 : Int32) (j21 : Int32) (j22 : Int32) (j23 : Int32) (j24 : Int32) (j29 : Int32) (kms : ClassId) (f : (Nat → Int32)) (af_10 : f 10 = 0) : zz_MI l yX7_hauls wsX7_hauls 0 0 0 0 D [.ref mo] [(mo, .inr (7, [.ref ms, .ref mi, .ref ma, .int j3, .ref mts, .ref mtz, .ref mtn, .ref mh, .ref mhn, .ref mhw, .ref mhz, .ref mhr, .ref mcl, .ref mtp, .int j14, .int j15, .int j16, .int j17, .int j18, .int j19, .int j20, .int j21, .int j22, .int j23, .int j24, .ref mna, .ref mpi, .ref mca, .ref mwa, .int j29, .ref mrd])), (ms, .inl (kms, 3047, .inl f))] [(kms, .int)] (fun (r : Int32) (u : Unit) => r = 0) (fun (u : Unit) => [(mo, .inr (7, [.ref ms, .ref mi, .ref ma, .int j3, .ref mts, .ref mtz, .ref mtn, .ref mh, .ref mhn, .ref mhw, .ref mhz, .ref mhr, .ref mcl, .ref mtp, .int j14, .int j15, .int j16, .int j17, .int j18, .int j19, .int j20, .int j21, .int j22, .int j23, .int j24, .ref mna, .ref mpi, .ref mca, .ref mwa, .int j29, .ref mrd])), (ms, .inl (kms, 3047, .inl f))]) (fun (u : Unit) => [(kms, .int)]) := by
  intro sz
  refine Met.ofW (cc := cX7_hauls) (maxL := 4) (ret := (some .int)) (by decide) rfl ?_
  intro p e s m args below meth c s₁ B hml hv
  obtain ⟨rfl, hC⟩ := hv
  have hx := B.exec
  have hb := B.bytes
  have hr := B.returns
  have hts := atoms_spec (ws := wsX7_hauls) B.pre
  have hown : s.vm.findClass RX7 = some m.cls := findClass_of_methodNamed B.named
  have hlk := B.notSynchronized
  have X : CallFix p m c cX7_hauls 4 s _ wsX7_hauls RX7 := ⟨hx, hb, hml, hown, hts⟩
  have Z := zz_enter hC
  generalize va_A [(mo, .inr (7, [.ref ms, .ref mi, .ref ma, .int j3, .ref mts, .ref mtz, .ref mtn, .ref mh, .ref mhn, .ref mhw, .ref mhz, .ref mhr, .ref mcl, .ref mtp, .int j14, .int j15, .int j16, .int j17, .int j18, .int j19, .int j20, .int j21, .int j22, .int j23, .int j24, .ref mna, .ref mpi, .ref mca, .ref mwa, .int j29, .ref mrd])), (ms, .inl (kms, 3047, .inl f))] sz = A at Z ⊢
  have hl := lv_entry ([.ref mo]) (n := 4) (Nat.le_of_ble_eq_true rfl)
  rw [lg_entry_eq]
  generalize (lg_sl ([.ref mo]) ++ List.replicate (4 - (lg_sl ([.ref mo])).length) Slot.unset).toArray = ls at hl ⊢
  have hl : lv_has ls 4 [(0, .ref mo)] := hl
  refine lv_aload_n hx hb dX7_hauls_0 rfl (lv_at hl 0 rfl) ?_
  refine zz_get X Z 0 rfl rfl (fun w h => List.mem_cons_of_mem _ (List.mem_append_right _ h)) 0 rfl (zz_m 1 rfl) rfl dX7_hauls_1 ?_
  refine lv_bipush (v := 10) hx hb dX7_hauls_4 (by decide) ?_
  refine zz_ild X Z 1 0 rfl rfl (zz_in 10 3047 rfl) dX7_hauls_6 ?_
  refine zz_v (v := 0) af_10 ?_
  refine lv_if_ne (tgt := 12) hx hb dX7_hauls_7 (by decide) (fun h => absurd (by decide) h) (fun _ => ?_)
  refine lv_iconst (v := 0) hx hb dX7_hauls_10 (by decide) ?_
  exact zz_iret X hr hlk Z () rfl [0, 1] [0] (by decide +kernel) rfl rfl dX7_hauls_11

set_option maxHeartbeats 4000000 in
set_option maxRecDepth 100000 in
theorem c7_goesOnBy (l : Launch) (D : va_G) (mo : Nat) (ms : Nat) (mi : Nat) (ma : Nat) (mts : Nat) (mtz : Nat) (mtn : Nat) (mh : Nat) (mhn : Nat) (mhw : Nat) (mhz : Nat) (mhr : Nat) (mcl : Nat) (mtp : Nat) (mna : Nat) (mpi : Nat) (mca : Nat) (mwa : Nat) (mrd : Nat) (j3 : Int32) (j14 : Int32) (j15 : Int32) (j16 : Int32) (j17 : Int32) (j18 : Int32) (j19 : Int32) (j20 : Int32) (j21 : Int32) (j22 : Int32) (j23 : Int32) (j24 : Int32) (j29 : Int32) (kms : ClassId) (f : (Nat → Int32)) (a1 : Int32) (a2 : Int32) (a3 : Int32) (a4 : Int32) (a5 : Int32) (a6 : Int32) (a7 : Int32) (a8 : Int32) (a9 : Int32) (a10 : Int32) (y : Int32) (af_0 : f 0 = 0) (af_1 : f 1 = a1) (af_2 : f 2 = a2) (af_3 : f 3 = a3) (af_4 : f 4 = a4) (af_5 : f 5 = a5) (af_6 : f 6 = a6) (af_7 : f 7 = a7) (af_8 : f 8 = a8) (af_9 : f 9 = a9) (af_10 : f 10 = a10) : zz_MV l yX7_goesOnBy wsX7_goesOnBy 2 41 0 0 D [.ref mo, .int y] [(mo, .inr (7, [.ref ms, .ref mi, .ref ma, .int j3, .ref mts, .ref mtz, .ref mtn, .ref mh, .ref mhn, .ref mhw, .ref mhz, .ref mhr, .ref mcl, .ref mtp, .int j14, .int j15, .int j16, .int j17, .int j18, .int j19, .int j20, .int j21, .int j22, .int j23, .int j24, .ref mna, .ref mpi, .ref mca, .ref mwa, .int j29, .ref mrd])), (ms, .inl (kms, 3047, .inl f))] [(kms, .int)] (fun (u : (Nat → Int32) × Int32 × Int32 × Int32) => match u with | (f9, F9, T9, Z9) => (f9 0 = 0 ∧ f9 1 = a1 ∧ f9 2 = a2 + 1 ∧ f9 3 = a3 ∧ f9 4 = a4 ∧ f9 5 = T9 ∧ f9 6 = Z9 ∧ f9 7 = F9 ∧ f9 8 = a8 ∧ f9 9 = a9 ∧ f9 10 = a10) ∧ (F9 = zz_mF a7 y a6 a8 a9 ∧ T9 = zz_bT a5 a6 a9 ∧ Z9 = zz_bZ a6 a9)) (fun (u : (Nat → Int32) × Int32 × Int32 × Int32) => match u with | (f9, F9, T9, Z9) => [(mo, .inr (7, [.ref ms, .ref mi, .ref ma, .int j3, .ref mts, .ref mtz, .ref mtn, .ref mh, .ref mhn, .ref mhw, .ref mhz, .ref mhr, .ref mcl, .ref mtp, .int j14, .int j15, .int j16, .int j17, .int j18, .int j19, .int j20, .int j21, .int j22, .int j23, .int j24, .ref mna, .ref mpi, .ref mca, .ref mwa, .int j29, .ref mrd])), (ms, .inl (kms, 3047, .inl f9))]) (fun (u : (Nat → Int32) × Int32 × Int32 × Int32) => match u with | (f9, F9, T9, Z9) => [(kms, .int)]) := by
  intro sz
  refine Met.ofW (cc := cX7_goesOnBy) (maxL := 4) (ret := none) (by decide) rfl ?_
  intro p e s m args below meth c s₁ B hml hv
  obtain ⟨rfl, hC⟩ := hv
  have hx := B.exec
  have hb := B.bytes
  have hr := B.returns
  have hts := atoms_spec (ws := wsX7_goesOnBy) B.pre
  have hown : s.vm.findClass RX7 = some m.cls := findClass_of_methodNamed B.named
  have hlk := B.notSynchronized
  have X : CallFix p m c cX7_goesOnBy 4 s _ wsX7_goesOnBy RX7 := ⟨hx, hb, hml, hown, hts⟩
  have Z := zz_enter hC
  generalize va_A [(mo, .inr (7, [.ref ms, .ref mi, .ref ma, .int j3, .ref mts, .ref mtz, .ref mtn, .ref mh, .ref mhn, .ref mhw, .ref mhz, .ref mhr, .ref mcl, .ref mtp, .int j14, .int j15, .int j16, .int j17, .int j18, .int j19, .int j20, .int j21, .int j22, .int j23, .int j24, .ref mna, .ref mpi, .ref mca, .ref mwa, .int j29, .ref mrd])), (ms, .inl (kms, 3047, .inl f))] sz = A at Z ⊢
  have hl := lv_entry ([.ref mo, .int y]) (n := 4) (Nat.le_of_ble_eq_true rfl)
  rw [lg_entry_eq]
  generalize (lg_sl ([.ref mo, .int y]) ++ List.replicate (4 - (lg_sl ([.ref mo, .int y])).length) Slot.unset).toArray = ls at hl ⊢
  have hl : lv_has ls 4 [(0, .ref mo), (1, .int y)] := hl
  refine lv_aload_n hx hb dX7_goesOnBy_0 rfl (lv_at hl 0 rfl) ?_
  refine zz_get X Z 0 rfl rfl (fun w h => List.mem_cons_of_mem _ (List.mem_append_right _ h)) 0 rfl (zz_m 1 rfl) rfl dX7_goesOnBy_1 ?_
  refine lv_bipush (v := 7) hx hb dX7_goesOnBy_4 (by decide) ?_
  refine lv_dup2_11 hx hb dX7_goesOnBy_6 rfl rfl ?_
  refine zz_ild X Z 1 0 rfl rfl (zz_in 7 3047 rfl) dX7_goesOnBy_7 ?_
  refine zz_v (v := a7) af_7 ?_
  refine lv_iload_n hx hb dX7_goesOnBy_8 rfl (lv_at hl 1 rfl) ?_
  refine lv_iadd hx hb dX7_goesOnBy_9 ?_
  refine zz_istN (WS' := fun f1 => [(mo, .inr (7, [.ref ms, .ref mi, .ref ma, .int j3, .ref mts, .ref mtz, .ref mtn, .ref mh, .ref mhn, .ref mhw, .ref mhz, .ref mhr, .ref mcl, .ref mtp, .int j14, .int j15, .int j16, .int j17, .int j18, .int j19, .int j20, .int j21, .int j22, .int j23, .int j24, .ref mna, .ref mpi, .ref mca, .ref mwa, .int j29, .ref mrd])), (ms, .inl (kms, 3047, .inl f1))]) X Z 1 0 rfl rfl (zz_in 7 3047 rfl) dX7_goesOnBy_10 (fun _ => rfl) (fun f1 ef2 H1 locs2 Z3 => ?_)
  clear Z
  have p3 : f1 7 = a7 + y := (by rw [ef2]; rfl)
  have p4 : f1 0 = 0 := (by rw [ef2]; exact af_0)
  have p5 : f1 1 = a1 := (by rw [ef2]; exact af_1)
  have p6 : f1 2 = a2 := (by rw [ef2]; exact af_2)
  have p7 : f1 3 = a3 := (by rw [ef2]; exact af_3)
  have p8 : f1 4 = a4 := (by rw [ef2]; exact af_4)
  have p9 : f1 5 = a5 := (by rw [ef2]; exact af_5)
  have p10 : f1 6 = a6 := (by rw [ef2]; exact af_6)
  have p11 : f1 8 = a8 := (by rw [ef2]; exact af_8)
  have p12 : f1 9 = a9 := (by rw [ef2]; exact af_9)
  have p13 : f1 10 = a10 := (by rw [ef2]; exact af_10)
  refine lv_aload_n hx hb dX7_goesOnBy_11 rfl (lv_at hl 0 rfl) ?_
  refine zz_cv (WC := [(mo, .inr (7, [.ref ms, .ref mi, .ref ma, .int j3, .ref mts, .ref mtz, .ref mtn, .ref mh, .ref mhn, .ref mhw, .ref mhz, .ref mhr, .ref mcl, .ref mtp, .int j14, .int j15, .int j16, .int j17, .int j18, .int j19, .int j20, .int j21, .int j22, .int j23, .int j24, .ref mna, .ref mpi, .ref mca, .ref mwa, .int j29, .ref mrd])), (ms, .inl (kms, 3047, .inl f1))]) (TC := [(kms, .int)]) (WR := []) (TR := []) (k := 0) (n := 0) Z3 [0, 1] [] [0] [] rfl rfl (by decide +kernel) (by decide +kernel) (by decide +kernel) rfl rfl (fun Zc => va_runV (As := []) (rest := []) X (c7_holds l D mo ms mi ma mts mtz mtn mh mhn mhw mhz mhr mcl mtp mna mpi mca mwa mrd j3 j14 j15 j16 j17 j18 j19 j20 j21 j22 j23 j24 j29 kms f1 0 a1 a2 a3 a4 a5 a6 (a7 + y) a8 a9 a10 p4 p5 p6 p7 p8 p9 p10 p3 p11 p12 p13 H1.size) (cwV 0 hts gX7_goesOnBy_X7_holds rfl rfl rfl ⟨rfl, zh_X7_holds⟩ ⟨Nat.le_of_ble_eq_true rfl, Nat.le_of_ble_eq_true rfl⟩) (zz_pV (ci := 7) Zc 0 rfl rfl) rfl rfl hl.1 rfl (lv_room (Nat.le_of_ble_eq_true rfl)) dX7_goesOnBy_12 ⟨Nat.le_of_ble_eq_true rfl, Nat.le_of_ble_eq_true rfl⟩) rfl rfl (fun u14 H4 locs5 hw15 Z6 => ?_)
  clear Z3
  obtain ⟨f917, rfl⟩ : ∃ z, z = u14 := ⟨_, rfl⟩
  try dsimp only at hw15 Z6
  obtain ⟨⟨p18, p19, p20, p21, p22, p23, p24, p25, p26, p27, p28⟩, hx29⟩ := hw15
  have Z7 : zz_S D A s [(mo, .inr (7, [.ref ms, .ref mi, .ref ma, .int j3, .ref mts, .ref mtz, .ref mtn, .ref mh, .ref mhn, .ref mhw, .ref mhz, .ref mhr, .ref mcl, .ref mtp, .int j14, .int j15, .int j16, .int j17, .int j18, .int j19, .int j20, .int j21, .int j22, .int j23, .int j24, .ref mna, .ref mpi, .ref mca, .ref mwa, .int j29, .ref mrd])), (ms, .inl (kms, 3047, .inl f917))] [(kms, .int)] H4 locs5 := Z6
  clear Z6
  refine lv_iconst (v := 0) hx hb dX7_goesOnBy_15 (by decide) ?_
  refine lv_istore_n (lv' := [(2, .int 0), (0, .ref mo), (1, .int y)]) hx hb dX7_goesOnBy_16 rfl hl (by decide) rfl (fun ls8 hl9 => ?_)
  clear hl
  refine lv_iload_n hx hb dX7_goesOnBy_17 rfl (lv_at hl9 0 rfl) ?_
  refine lv_aload_n hx hb dX7_goesOnBy_18 rfl (lv_at hl9 1 rfl) ?_
  refine zz_get X Z7 0 rfl rfl (fun w h => List.mem_cons_of_mem _ (List.mem_append_right _ h)) 0 rfl (zz_m 1 rfl) rfl dX7_goesOnBy_19 ?_
  refine lv_iconst (v := 0) hx hb dX7_goesOnBy_22 (by decide) ?_
  refine zz_ild X Z7 1 0 rfl rfl (zz_in 0 3047 rfl) dX7_goesOnBy_23 ?_
  refine zz_v (v := 0) p18 ?_
  refine lv_icmp_ge (tgt := 90) hx hb dX7_goesOnBy_24 (by decide) (fun _ => ?_) (fun h => absurd (by decide) h)
  refine lv_aload_n hx hb dX7_goesOnBy_90 rfl (lv_at hl9 1 rfl) ?_
  refine zz_ci (WC := [(mo, .inr (7, [.ref ms, .ref mi, .ref ma, .int j3, .ref mts, .ref mtz, .ref mtn, .ref mh, .ref mhn, .ref mhw, .ref mhz, .ref mhr, .ref mcl, .ref mtp, .int j14, .int j15, .int j16, .int j17, .int j18, .int j19, .int j20, .int j21, .int j22, .int j23, .int j24, .ref mna, .ref mpi, .ref mca, .ref mwa, .int j29, .ref mrd])), (ms, .inl (kms, 3047, .inl f917))]) (TC := [(kms, .int)]) (WR := []) (TR := []) (k := 0) (n := 0) Z7 [0, 1] [] [0] [] rfl rfl (by decide +kernel) (by decide +kernel) (by decide +kernel) rfl rfl (fun Zc => va_runV (As := []) (rest := []) X (c7_drawn l D mo ms mi ma mts mtz mtn mh mhn mhw mhz mhr mcl mtp mna mpi mca mwa mrd j3 j14 j15 j16 j17 j18 j19 j20 j21 j22 j23 j24 j29 kms f917 0 a1 a2 a3 a4 a5 a6 (zz_hw (a7 + y) (12 - a8)) a8 a9 a10 p18 p19 p20 p21 p22 p23 p24 p25 p26 p27 p28 H4.size) (cwV 0 hts gX7_goesOnBy_X7_drawn rfl rfl rfl ⟨rfl, zh_X7_drawn⟩ ⟨Nat.le_of_ble_eq_true rfl, Nat.le_of_ble_eq_true rfl⟩) (zz_pV (ci := 7) Zc 0 rfl rfl) rfl rfl hl9.1 rfl (lv_room (Nat.le_of_ble_eq_true rfl)) dX7_goesOnBy_91 ⟨Nat.le_of_ble_eq_true rfl, Nat.le_of_ble_eq_true rfl⟩) rfl rfl (fun r32 u30 H10 locs11 hw31 Z12 => ?_)
  clear Z7
  obtain ⟨f933, rfl⟩ : ∃ z, z = u30 := ⟨_, rfl⟩
  try dsimp only at hw31 Z12
  obtain ⟨⟨p34, p35, p36, p37, p38, p39, p40, p41, p42, p43, p44⟩, hx45⟩ := hw31
  subst r32
  have Z13 : zz_S D A s [(mo, .inr (7, [.ref ms, .ref mi, .ref ma, .int j3, .ref mts, .ref mtz, .ref mtn, .ref mh, .ref mhn, .ref mhw, .ref mhz, .ref mhr, .ref mcl, .ref mtp, .int j14, .int j15, .int j16, .int j17, .int j18, .int j19, .int j20, .int j21, .int j22, .int j23, .int j24, .ref mna, .ref mpi, .ref mca, .ref mwa, .int j29, .ref mrd])), (ms, .inl (kms, 3047, .inl f933))] [(kms, .int)] H10 locs11 := Z12
  clear Z12
  refine lv_bipush (v := 100) hx hb dX7_goesOnBy_94 (by decide) ?_
  refine lv_irem hx hb dX7_goesOnBy_96 (by decide) ?_
  refine lv_aload_n hx hb dX7_goesOnBy_97 rfl (lv_at hl9 1 rfl) ?_
  refine zz_get X Z13 0 rfl rfl (fun w h => List.mem_cons_of_mem _ (List.mem_append_right _ h)) 0 rfl (zz_m 1 rfl) rfl dX7_goesOnBy_98 ?_
  refine lv_bipush (v := 9) hx hb dX7_goesOnBy_101 (by decide) ?_
  refine zz_ild X Z13 1 0 rfl rfl (zz_in 9 3047 rfl) dX7_goesOnBy_103 ?_
  refine zz_v (v := a9) p43 ?_
  refine lv_icmp_ge (tgt := 149) hx hb dX7_goesOnBy_104 (by decide) (fun b46 => ?_) (fun b46 => ?_)
  · refine lv_aload_n hx hb dX7_goesOnBy_149 rfl (lv_at hl9 1 rfl) ?_
    refine zz_get X Z13 0 rfl rfl (fun w h => List.mem_cons_of_mem _ (List.mem_append_right _ h)) 0 rfl (zz_m 1 rfl) rfl dX7_goesOnBy_150 ?_
    refine lv_iconst (v := 2) hx hb dX7_goesOnBy_153 (by decide) ?_
    refine lv_dup2_11 hx hb dX7_goesOnBy_154 rfl rfl ?_
    refine zz_ild X Z13 1 0 rfl rfl (zz_in 2 3047 rfl) dX7_goesOnBy_155 ?_
    refine zz_v (v := a2) p36 ?_
    refine lv_iconst (v := 1) hx hb dX7_goesOnBy_156 (by decide) ?_
    refine lv_iadd hx hb dX7_goesOnBy_157 ?_
    refine zz_istN (WS' := fun f47 => [(mo, .inr (7, [.ref ms, .ref mi, .ref ma, .int j3, .ref mts, .ref mtz, .ref mtn, .ref mh, .ref mhn, .ref mhw, .ref mhz, .ref mhr, .ref mcl, .ref mtp, .int j14, .int j15, .int j16, .int j17, .int j18, .int j19, .int j20, .int j21, .int j22, .int j23, .int j24, .ref mna, .ref mpi, .ref mca, .ref mwa, .int j29, .ref mrd])), (ms, .inl (kms, 3047, .inl f47))]) X Z13 1 0 rfl rfl (zz_in 2 3047 rfl) dX7_goesOnBy_158 (fun _ => rfl) (fun f47 ef48 H14 locs15 Z16 => ?_)
    clear Z13
    have p49 : f47 2 = a2 + 1 := (by rw [ef48]; rfl)
    have p50 : f47 0 = 0 := (by rw [ef48]; exact p34)
    have p51 : f47 1 = a1 := (by rw [ef48]; exact p35)
    have p52 : f47 3 = a3 := (by rw [ef48]; exact p37)
    have p53 : f47 4 = a4 := (by rw [ef48]; exact p38)
    have p54 : f47 5 = a5 := (by rw [ef48]; exact p39)
    have p55 : f47 6 = zz_nz a6 := (by rw [ef48]; exact p40)
    have p56 : f47 7 = zz_hw (a7 + y) (12 - a8) := (by rw [ef48]; exact p41)
    have p57 : f47 8 = a8 := (by rw [ef48]; exact p42)
    have p58 : f47 9 = a9 := (by rw [ef48]; exact p43)
    have p59 : f47 10 = a10 := (by rw [ef48]; exact p44)
    exact zz_vret X hr hlk Z16 (f47, zz_hw (a7 + y) (12 - a8), a5, zz_nz a6) ⟨⟨p50, p51, p49, p52, p53, p54, p55, p56, p57, p58, p59⟩, ⟨(if_neg (Int32.not_lt.mpr b46)).symm, (if_neg (Int32.not_lt.mpr b46)).symm, (if_neg (Int32.not_lt.mpr b46)).symm⟩⟩ [0, 1] [0] (by decide +kernel) rfl rfl dX7_goesOnBy_159
  · refine lv_aload_n hx hb dX7_goesOnBy_107 rfl (lv_at hl9 1 rfl) ?_
    refine zz_ci (WC := [(mo, .inr (7, [.ref ms, .ref mi, .ref ma, .int j3, .ref mts, .ref mtz, .ref mtn, .ref mh, .ref mhn, .ref mhw, .ref mhz, .ref mhr, .ref mcl, .ref mtp, .int j14, .int j15, .int j16, .int j17, .int j18, .int j19, .int j20, .int j21, .int j22, .int j23, .int j24, .ref mna, .ref mpi, .ref mca, .ref mwa, .int j29, .ref mrd])), (ms, .inl (kms, 3047, .inl f933))]) (TC := [(kms, .int)]) (WR := []) (TR := []) (k := 0) (n := 0) Z13 [0, 1] [] [0] [] rfl rfl (by decide +kernel) (by decide +kernel) (by decide +kernel) rfl rfl (fun Zc => va_runV (As := []) (rest := []) X (c7_drawn l D mo ms mi ma mts mtz mtn mh mhn mhw mhz mhr mcl mtp mna mpi mca mwa mrd j3 j14 j15 j16 j17 j18 j19 j20 j21 j22 j23 j24 j29 kms f933 0 a1 a2 a3 a4 a5 (zz_nz a6) (zz_hw (a7 + y) (12 - a8)) a8 a9 a10 p34 p35 p36 p37 p38 p39 p40 p41 p42 p43 p44 H10.size) (cwV 0 hts gX7_goesOnBy_X7_drawn rfl rfl rfl ⟨rfl, zh_X7_drawn⟩ ⟨Nat.le_of_ble_eq_true rfl, Nat.le_of_ble_eq_true rfl⟩) (zz_pV (ci := 7) Zc 0 rfl rfl) rfl rfl hl9.1 rfl (lv_room (Nat.le_of_ble_eq_true rfl)) dX7_goesOnBy_108 ⟨Nat.le_of_ble_eq_true rfl, Nat.le_of_ble_eq_true rfl⟩) rfl rfl (fun r62 u60 H17 locs18 hw61 Z19 => ?_)
    clear Z13
    obtain ⟨f963, rfl⟩ : ∃ z, z = u60 := ⟨_, rfl⟩
    try dsimp only at hw61 Z19
    obtain ⟨⟨p64, p65, p66, p67, p68, p69, p70, p71, p72, p73, p74⟩, hx75⟩ := hw61
    subst r62
    have Z20 : zz_S D A s [(mo, .inr (7, [.ref ms, .ref mi, .ref ma, .int j3, .ref mts, .ref mtz, .ref mtn, .ref mh, .ref mhn, .ref mhw, .ref mhz, .ref mhr, .ref mcl, .ref mtp, .int j14, .int j15, .int j16, .int j17, .int j18, .int j19, .int j20, .int j21, .int j22, .int j23, .int j24, .ref mna, .ref mpi, .ref mca, .ref mwa, .int j29, .ref mrd])), (ms, .inl (kms, 3047, .inl f963))] [(kms, .int)] H17 locs18 := Z19
    clear Z19
    refine lv_iconst (v := 3) hx hb dX7_goesOnBy_111 (by decide) ?_
    refine lv_irem hx hb dX7_goesOnBy_112 (by decide) ?_
    refine lv_iconst (v := 1) hx hb dX7_goesOnBy_113 (by decide) ?_
    refine lv_isub hx hb dX7_goesOnBy_114 ?_
    refine lv_topi (fun y76 ey77 => ?_)
    have ey77 : y76 = zz_by (zz_nz a6) := ey77
    subst ey77
    refine lv_istore_n (lv' := [(2, .int (zz_by (zz_nz a6))), (0, .ref mo), (1, .int y)]) hx hb dX7_goesOnBy_115 rfl hl9 (by decide) rfl (fun ls21 hl22 => ?_)
    clear hl9
    refine lv_aload_n hx hb dX7_goesOnBy_116 rfl (lv_at hl22 1 rfl) ?_
    refine zz_get X Z20 0 rfl rfl (fun w h => List.mem_cons_of_mem _ (List.mem_append_right _ h)) 0 rfl (zz_m 1 rfl) rfl dX7_goesOnBy_117 ?_
    refine lv_bipush (v := 7) hx hb dX7_goesOnBy_120 (by decide) ?_
    refine lv_dup2_11 hx hb dX7_goesOnBy_122 rfl rfl ?_
    refine zz_ild X Z20 1 0 rfl rfl (zz_in 7 3047 rfl) dX7_goesOnBy_123 ?_
    refine zz_v (v := zz_hw (a7 + y) (12 - a8)) p71 ?_
    refine lv_iload_n hx hb dX7_goesOnBy_124 rfl (lv_at hl22 0 rfl) ?_
    refine lv_iadd hx hb dX7_goesOnBy_125 ?_
    refine zz_istN (WS' := fun f78 => [(mo, .inr (7, [.ref ms, .ref mi, .ref ma, .int j3, .ref mts, .ref mtz, .ref mtn, .ref mh, .ref mhn, .ref mhw, .ref mhz, .ref mhr, .ref mcl, .ref mtp, .int j14, .int j15, .int j16, .int j17, .int j18, .int j19, .int j20, .int j21, .int j22, .int j23, .int j24, .ref mna, .ref mpi, .ref mca, .ref mwa, .int j29, .ref mrd])), (ms, .inl (kms, 3047, .inl f78))]) X Z20 1 0 rfl rfl (zz_in 7 3047 rfl) dX7_goesOnBy_126 (fun _ => rfl) (fun f78 ef79 H23 locs24 Z25 => ?_)
    clear Z20
    have p80 : f78 7 = (zz_hw (a7 + y) (12 - a8)) + (zz_by (zz_nz a6)) := (by rw [ef79]; rfl)
    have p81 : f78 0 = 0 := (by rw [ef79]; exact p64)
    have p82 : f78 1 = a1 := (by rw [ef79]; exact p65)
    have p83 : f78 2 = a2 := (by rw [ef79]; exact p66)
    have p84 : f78 3 = a3 := (by rw [ef79]; exact p67)
    have p85 : f78 4 = a4 := (by rw [ef79]; exact p68)
    have p86 : f78 5 = a5 := (by rw [ef79]; exact p69)
    have p87 : f78 6 = zz_nz (zz_nz a6) := (by rw [ef79]; exact p70)
    have p88 : f78 8 = a8 := (by rw [ef79]; exact p72)
    have p89 : f78 9 = a9 := (by rw [ef79]; exact p73)
    have p90 : f78 10 = a10 := (by rw [ef79]; exact p74)
    refine lv_aload_n hx hb dX7_goesOnBy_127 rfl (lv_at hl22 1 rfl) ?_
    refine zz_cv (WC := [(mo, .inr (7, [.ref ms, .ref mi, .ref ma, .int j3, .ref mts, .ref mtz, .ref mtn, .ref mh, .ref mhn, .ref mhw, .ref mhz, .ref mhr, .ref mcl, .ref mtp, .int j14, .int j15, .int j16, .int j17, .int j18, .int j19, .int j20, .int j21, .int j22, .int j23, .int j24, .ref mna, .ref mpi, .ref mca, .ref mwa, .int j29, .ref mrd])), (ms, .inl (kms, 3047, .inl f78))]) (TC := [(kms, .int)]) (WR := []) (TR := []) (k := 0) (n := 0) Z25 [0, 1] [] [0] [] rfl rfl (by decide +kernel) (by decide +kernel) (by decide +kernel) rfl rfl (fun Zc => va_runV (As := []) (rest := []) X (c7_holds l D mo ms mi ma mts mtz mtn mh mhn mhw mhz mhr mcl mtp mna mpi mca mwa mrd j3 j14 j15 j16 j17 j18 j19 j20 j21 j22 j23 j24 j29 kms f78 0 a1 a2 a3 a4 a5 (zz_nz (zz_nz a6)) ((zz_hw (a7 + y) (12 - a8)) + (zz_by (zz_nz a6))) a8 a9 a10 p81 p82 p83 p84 p85 p86 p87 p80 p88 p89 p90 H23.size) (cwV 0 hts gX7_goesOnBy_X7_holds rfl rfl rfl ⟨rfl, zh_X7_holds⟩ ⟨Nat.le_of_ble_eq_true rfl, Nat.le_of_ble_eq_true rfl⟩) (zz_pV (ci := 7) Zc 0 rfl rfl) rfl rfl hl22.1 rfl (lv_room (Nat.le_of_ble_eq_true rfl)) dX7_goesOnBy_128 ⟨Nat.le_of_ble_eq_true rfl, Nat.le_of_ble_eq_true rfl⟩) rfl rfl (fun u91 H26 locs27 hw92 Z28 => ?_)
    clear Z25
    obtain ⟨f994, rfl⟩ : ∃ z, z = u91 := ⟨_, rfl⟩
    try dsimp only at hw92 Z28
    obtain ⟨⟨p95, p96, p97, p98, p99, p100, p101, p102, p103, p104, p105⟩, hx106⟩ := hw92
    have Z29 : zz_S D A s [(mo, .inr (7, [.ref ms, .ref mi, .ref ma, .int j3, .ref mts, .ref mtz, .ref mtn, .ref mh, .ref mhn, .ref mhw, .ref mhz, .ref mhr, .ref mcl, .ref mtp, .int j14, .int j15, .int j16, .int j17, .int j18, .int j19, .int j20, .int j21, .int j22, .int j23, .int j24, .ref mna, .ref mpi, .ref mca, .ref mwa, .int j29, .ref mrd])), (ms, .inl (kms, 3047, .inl f994))] [(kms, .int)] H26 locs27 := Z28
    clear Z28
    refine lv_aload_n hx hb dX7_goesOnBy_131 rfl (lv_at hl22 1 rfl) ?_
    refine zz_get X Z29 0 rfl rfl (fun w h => List.mem_cons_of_mem _ (List.mem_append_right _ h)) 0 rfl (zz_m 1 rfl) rfl dX7_goesOnBy_132 ?_
    refine lv_iconst (v := 5) hx hb dX7_goesOnBy_135 (by decide) ?_
    refine lv_dup2_11 hx hb dX7_goesOnBy_136 rfl rfl ?_
    refine zz_ild X Z29 1 0 rfl rfl (zz_in 5 3047 rfl) dX7_goesOnBy_137 ?_
    refine zz_v (v := a5) p100 ?_
    refine lv_iload_n hx hb dX7_goesOnBy_138 rfl (lv_at hl22 0 rfl) ?_
    refine lv_if_ne (tgt := 146) hx hb dX7_goesOnBy_139 (by decide) (fun b107 => ?_) (fun b107 => ?_)
    · refine lv_iconst (v := 1) hx hb dX7_goesOnBy_146 (by decide) ?_
      refine lv_iadd hx hb dX7_goesOnBy_147 ?_
      refine zz_istN (WS' := fun f108 => [(mo, .inr (7, [.ref ms, .ref mi, .ref ma, .int j3, .ref mts, .ref mtz, .ref mtn, .ref mh, .ref mhn, .ref mhw, .ref mhz, .ref mhr, .ref mcl, .ref mtp, .int j14, .int j15, .int j16, .int j17, .int j18, .int j19, .int j20, .int j21, .int j22, .int j23, .int j24, .ref mna, .ref mpi, .ref mca, .ref mwa, .int j29, .ref mrd])), (ms, .inl (kms, 3047, .inl f108))]) X Z29 1 0 rfl rfl (zz_in 5 3047 rfl) dX7_goesOnBy_148 (fun _ => rfl) (fun f108 ef109 H30 locs31 Z32 => ?_)
      clear Z29
      have p110 : f108 5 = a5 + 1 := (by rw [ef109]; rfl)
      have p111 : f108 0 = 0 := (by rw [ef109]; exact p95)
      have p112 : f108 1 = a1 := (by rw [ef109]; exact p96)
      have p113 : f108 2 = a2 := (by rw [ef109]; exact p97)
      have p114 : f108 3 = a3 := (by rw [ef109]; exact p98)
      have p115 : f108 4 = a4 := (by rw [ef109]; exact p99)
      have p116 : f108 6 = zz_nz (zz_nz a6) := (by rw [ef109]; exact p101)
      have p117 : f108 7 = zz_hw ((zz_hw (a7 + y) (12 - a8)) + (zz_by (zz_nz a6))) (12 - a8) := (by rw [ef109]; exact p102)
      have p118 : f108 8 = a8 := (by rw [ef109]; exact p103)
      have p119 : f108 9 = a9 := (by rw [ef109]; exact p104)
      have p120 : f108 10 = a10 := (by rw [ef109]; exact p105)
      refine lv_aload_n hx hb dX7_goesOnBy_149 rfl (lv_at hl22 1 rfl) ?_
      refine zz_get X Z32 0 rfl rfl (fun w h => List.mem_cons_of_mem _ (List.mem_append_right _ h)) 0 rfl (zz_m 1 rfl) rfl dX7_goesOnBy_150 ?_
      refine lv_iconst (v := 2) hx hb dX7_goesOnBy_153 (by decide) ?_
      refine lv_dup2_11 hx hb dX7_goesOnBy_154 rfl rfl ?_
      refine zz_ild X Z32 1 0 rfl rfl (zz_in 2 3047 rfl) dX7_goesOnBy_155 ?_
      refine zz_v (v := a2) p113 ?_
      refine lv_iconst (v := 1) hx hb dX7_goesOnBy_156 (by decide) ?_
      refine lv_iadd hx hb dX7_goesOnBy_157 ?_
      refine zz_istN (WS' := fun f121 => [(mo, .inr (7, [.ref ms, .ref mi, .ref ma, .int j3, .ref mts, .ref mtz, .ref mtn, .ref mh, .ref mhn, .ref mhw, .ref mhz, .ref mhr, .ref mcl, .ref mtp, .int j14, .int j15, .int j16, .int j17, .int j18, .int j19, .int j20, .int j21, .int j22, .int j23, .int j24, .ref mna, .ref mpi, .ref mca, .ref mwa, .int j29, .ref mrd])), (ms, .inl (kms, 3047, .inl f121))]) X Z32 1 0 rfl rfl (zz_in 2 3047 rfl) dX7_goesOnBy_158 (fun _ => rfl) (fun f121 ef122 H33 locs34 Z35 => ?_)
      clear Z32
      have p123 : f121 2 = a2 + 1 := (by rw [ef122]; rfl)
      have p124 : f121 5 = a5 + 1 := (by rw [ef122]; exact p110)
      have p125 : f121 0 = 0 := (by rw [ef122]; exact p111)
      have p126 : f121 1 = a1 := (by rw [ef122]; exact p112)
      have p127 : f121 3 = a3 := (by rw [ef122]; exact p114)
      have p128 : f121 4 = a4 := (by rw [ef122]; exact p115)
      have p129 : f121 6 = zz_nz (zz_nz a6) := (by rw [ef122]; exact p116)
      have p130 : f121 7 = zz_hw ((zz_hw (a7 + y) (12 - a8)) + (zz_by (zz_nz a6))) (12 - a8) := (by rw [ef122]; exact p117)
      have p131 : f121 8 = a8 := (by rw [ef122]; exact p118)
      have p132 : f121 9 = a9 := (by rw [ef122]; exact p119)
      have p133 : f121 10 = a10 := (by rw [ef122]; exact p120)
      exact zz_vret X hr hlk Z35 (f121, zz_hw ((zz_hw (a7 + y) (12 - a8)) + (zz_by (zz_nz a6))) (12 - a8), a5 + 1, zz_nz (zz_nz a6)) ⟨⟨p125, p126, p123, p127, p128, p124, p129, p130, p131, p132, p133⟩, ⟨(if_pos (Int32.not_le.mp b46)).symm, ((if_neg b107).symm.trans (if_pos (Int32.not_le.mp b46)).symm), (if_pos (Int32.not_le.mp b46)).symm⟩⟩ [0, 1] [0] (by decide +kernel) rfl rfl dX7_goesOnBy_159
    · refine lv_iconst (v := 0) hx hb dX7_goesOnBy_142 (by decide) ?_
      refine lv_goto (tgt := 147) hx hb dX7_goesOnBy_143 (by decide) ?_
      refine lv_iadd hx hb dX7_goesOnBy_147 ?_
      refine zz_istN (WS' := fun f134 => [(mo, .inr (7, [.ref ms, .ref mi, .ref ma, .int j3, .ref mts, .ref mtz, .ref mtn, .ref mh, .ref mhn, .ref mhw, .ref mhz, .ref mhr, .ref mcl, .ref mtp, .int j14, .int j15, .int j16, .int j17, .int j18, .int j19, .int j20, .int j21, .int j22, .int j23, .int j24, .ref mna, .ref mpi, .ref mca, .ref mwa, .int j29, .ref mrd])), (ms, .inl (kms, 3047, .inl f134))]) X Z29 1 0 rfl rfl (zz_in 5 3047 rfl) dX7_goesOnBy_148 (fun _ => rfl) (fun f134 ef135 H36 locs37 Z38 => ?_)
      clear Z29
      have p136 : f134 5 = a5 + 0 := (by rw [ef135]; rfl)
      have p137 : f134 0 = 0 := (by rw [ef135]; exact p95)
      have p138 : f134 1 = a1 := (by rw [ef135]; exact p96)
      have p139 : f134 2 = a2 := (by rw [ef135]; exact p97)
      have p140 : f134 3 = a3 := (by rw [ef135]; exact p98)
      have p141 : f134 4 = a4 := (by rw [ef135]; exact p99)
      have p142 : f134 6 = zz_nz (zz_nz a6) := (by rw [ef135]; exact p101)
      have p143 : f134 7 = zz_hw ((zz_hw (a7 + y) (12 - a8)) + (zz_by (zz_nz a6))) (12 - a8) := (by rw [ef135]; exact p102)
      have p144 : f134 8 = a8 := (by rw [ef135]; exact p103)
      have p145 : f134 9 = a9 := (by rw [ef135]; exact p104)
      have p146 : f134 10 = a10 := (by rw [ef135]; exact p105)
      refine lv_aload_n hx hb dX7_goesOnBy_149 rfl (lv_at hl22 1 rfl) ?_
      refine zz_get X Z38 0 rfl rfl (fun w h => List.mem_cons_of_mem _ (List.mem_append_right _ h)) 0 rfl (zz_m 1 rfl) rfl dX7_goesOnBy_150 ?_
      refine lv_iconst (v := 2) hx hb dX7_goesOnBy_153 (by decide) ?_
      refine lv_dup2_11 hx hb dX7_goesOnBy_154 rfl rfl ?_
      refine zz_ild X Z38 1 0 rfl rfl (zz_in 2 3047 rfl) dX7_goesOnBy_155 ?_
      refine zz_v (v := a2) p139 ?_
      refine lv_iconst (v := 1) hx hb dX7_goesOnBy_156 (by decide) ?_
      refine lv_iadd hx hb dX7_goesOnBy_157 ?_
      refine zz_istN (WS' := fun f147 => [(mo, .inr (7, [.ref ms, .ref mi, .ref ma, .int j3, .ref mts, .ref mtz, .ref mtn, .ref mh, .ref mhn, .ref mhw, .ref mhz, .ref mhr, .ref mcl, .ref mtp, .int j14, .int j15, .int j16, .int j17, .int j18, .int j19, .int j20, .int j21, .int j22, .int j23, .int j24, .ref mna, .ref mpi, .ref mca, .ref mwa, .int j29, .ref mrd])), (ms, .inl (kms, 3047, .inl f147))]) X Z38 1 0 rfl rfl (zz_in 2 3047 rfl) dX7_goesOnBy_158 (fun _ => rfl) (fun f147 ef148 H39 locs40 Z41 => ?_)
      clear Z38
      have p149 : f147 2 = a2 + 1 := (by rw [ef148]; rfl)
      have p150 : f147 5 = a5 + 0 := (by rw [ef148]; exact p136)
      have p151 : f147 0 = 0 := (by rw [ef148]; exact p137)
      have p152 : f147 1 = a1 := (by rw [ef148]; exact p138)
      have p153 : f147 3 = a3 := (by rw [ef148]; exact p140)
      have p154 : f147 4 = a4 := (by rw [ef148]; exact p141)
      have p155 : f147 6 = zz_nz (zz_nz a6) := (by rw [ef148]; exact p142)
      have p156 : f147 7 = zz_hw ((zz_hw (a7 + y) (12 - a8)) + (zz_by (zz_nz a6))) (12 - a8) := (by rw [ef148]; exact p143)
      have p157 : f147 8 = a8 := (by rw [ef148]; exact p144)
      have p158 : f147 9 = a9 := (by rw [ef148]; exact p145)
      have p159 : f147 10 = a10 := (by rw [ef148]; exact p146)
      exact zz_vret X hr hlk Z41 (f147, zz_hw ((zz_hw (a7 + y) (12 - a8)) + (zz_by (zz_nz a6))) (12 - a8), a5 + 0, zz_nz (zz_nz a6)) ⟨⟨p151, p152, p149, p153, p154, p150, p155, p156, p157, p158, p159⟩, ⟨(if_pos (Int32.not_le.mp b46)).symm, (Int32.add_zero a5).trans ((if_pos b107).symm.trans (if_pos (Int32.not_le.mp b46)).symm), (if_pos (Int32.not_le.mp b46)).symm⟩⟩ [0, 1] [0] (by decide +kernel) rfl rfl dX7_goesOnBy_159

set_option maxHeartbeats 4000000 in
set_option maxRecDepth 100000 in
theorem c7_goesOn (l : Launch) (D : va_G) (mo : Nat) (ms : Nat) (mi : Nat) (ma : Nat) (mts : Nat) (mtz : Nat) (mtn : Nat) (mh : Nat) (mhn : Nat) (mhw : Nat) (mhz : Nat) (mhr : Nat) (mcl : Nat) (mtp : Nat) (mna : Nat) (mpi : Nat) (mca : Nat) (mwa : Nat) (mrd : Nat) (j3 : Int32) (j14 : Int32) (j15 : Int32) (j16 : Int32) (j17 : Int32) (j18 : Int32) (j19 : Int32) (j20 : Int32) (j21 : Int32) (j22 : Int32) (j23 : Int32) (j24 : Int32) (j29 : Int32) (kms : ClassId) (f : (Nat → Int32)) (a1 : Int32) (a2 : Int32) (a3 : Int32) (a4 : Int32) (a5 : Int32) (a6 : Int32) (a7 : Int32) (a8 : Int32) (a9 : Int32) (af_0 : f 0 = 0) (af_1 : f 1 = a1) (af_2 : f 2 = a2) (af_3 : f 3 = a3) (af_4 : f 4 = a4) (af_5 : f 5 = a5) (af_6 : f 6 = a6) (af_7 : f 7 = a7) (af_8 : f 8 = a8) (af_9 : f 9 = a9) (af_10 : f 10 = 0) : zz_MV l yX7_goesOn wsX7_goesOn 3 64 0 0 D [.ref mo] [(mo, .inr (7, [.ref ms, .ref mi, .ref ma, .int j3, .ref mts, .ref mtz, .ref mtn, .ref mh, .ref mhn, .ref mhw, .ref mhz, .ref mhr, .ref mcl, .ref mtp, .int j14, .int j15, .int j16, .int j17, .int j18, .int j19, .int j20, .int j21, .int j22, .int j23, .int j24, .ref mna, .ref mpi, .ref mca, .ref mwa, .int j29, .ref mrd])), (ms, .inl (kms, 3047, .inl f))] [(kms, .int)] (fun (u : (Nat → Int32) × Int32 × Int32 × Int32) => match u with | (f9, F9, T9, Z9) => (f9 0 = 0 ∧ f9 1 = a1 ∧ f9 2 = a2 + 1 ∧ f9 3 = a3 ∧ f9 4 = a4 ∧ f9 5 = T9 ∧ f9 6 = Z9 ∧ f9 7 = F9 ∧ f9 8 = a8 ∧ f9 9 = a9 ∧ f9 10 = 0) ∧ (F9 = zz_mF a7 0 a6 a8 a9 ∧ T9 = zz_bT a5 a6 a9 ∧ Z9 = zz_bZ a6 a9)) (fun (u : (Nat → Int32) × Int32 × Int32 × Int32) => match u with | (f9, F9, T9, Z9) => [(mo, .inr (7, [.ref ms, .ref mi, .ref ma, .int j3, .ref mts, .ref mtz, .ref mtn, .ref mh, .ref mhn, .ref mhw, .ref mhz, .ref mhr, .ref mcl, .ref mtp, .int j14, .int j15, .int j16, .int j17, .int j18, .int j19, .int j20, .int j21, .int j22, .int j23, .int j24, .ref mna, .ref mpi, .ref mca, .ref mwa, .int j29, .ref mrd])), (ms, .inl (kms, 3047, .inl f9))]) (fun (u : (Nat → Int32) × Int32 × Int32 × Int32) => match u with | (f9, F9, T9, Z9) => [(kms, .int)]) := by
  intro sz
  refine Met.ofW (cc := cX7_goesOn) (maxL := 1) (ret := none) (by decide) rfl ?_
  intro p e s m args below meth c s₁ B hml hv
  obtain ⟨rfl, hC⟩ := hv
  have hx := B.exec
  have hb := B.bytes
  have hr := B.returns
  have hts := atoms_spec (ws := wsX7_goesOn) B.pre
  have hown : s.vm.findClass RX7 = some m.cls := findClass_of_methodNamed B.named
  have hlk := B.notSynchronized
  have X : CallFix p m c cX7_goesOn 1 s _ wsX7_goesOn RX7 := ⟨hx, hb, hml, hown, hts⟩
  have Z := zz_enter hC
  generalize va_A [(mo, .inr (7, [.ref ms, .ref mi, .ref ma, .int j3, .ref mts, .ref mtz, .ref mtn, .ref mh, .ref mhn, .ref mhw, .ref mhz, .ref mhr, .ref mcl, .ref mtp, .int j14, .int j15, .int j16, .int j17, .int j18, .int j19, .int j20, .int j21, .int j22, .int j23, .int j24, .ref mna, .ref mpi, .ref mca, .ref mwa, .int j29, .ref mrd])), (ms, .inl (kms, 3047, .inl f))] sz = A at Z ⊢
  have hl := lv_entry ([.ref mo]) (n := 1) (Nat.le_of_ble_eq_true rfl)
  rw [lg_entry_eq]
  generalize (lg_sl ([.ref mo]) ++ List.replicate (1 - (lg_sl ([.ref mo])).length) Slot.unset).toArray = ls at hl ⊢
  have hl : lv_has ls 1 [(0, .ref mo)] := hl
  refine lv_aload_n hx hb dX7_goesOn_0 rfl (lv_at hl 0 rfl) ?_
  refine lv_aload_n hx hb dX7_goesOn_1 rfl (lv_at hl 0 rfl) ?_
  refine zz_ci (WC := [(mo, .inr (7, [.ref ms, .ref mi, .ref ma, .int j3, .ref mts, .ref mtz, .ref mtn, .ref mh, .ref mhn, .ref mhw, .ref mhz, .ref mhr, .ref mcl, .ref mtp, .int j14, .int j15, .int j16, .int j17, .int j18, .int j19, .int j20, .int j21, .int j22, .int j23, .int j24, .ref mna, .ref mpi, .ref mca, .ref mwa, .int j29, .ref mrd])), (ms, .inl (kms, 3047, .inl f))]) (TC := [(kms, .int)]) (WR := []) (TR := []) (k := 0) (n := 0) Z [0, 1] [] [0] [] rfl rfl (by decide +kernel) (by decide +kernel) (by decide +kernel) rfl rfl (fun Zc => va_runV (As := []) (rest := [.ref mo]) X (c7_hauls l D mo ms mi ma mts mtz mtn mh mhn mhw mhz mhr mcl mtp mna mpi mca mwa mrd j3 j14 j15 j16 j17 j18 j19 j20 j21 j22 j23 j24 j29 kms f af_10 s.heap.size) (cwV 0 hts gX7_goesOn_X7_hauls rfl rfl rfl ⟨rfl, zh_X7_hauls⟩ ⟨Nat.le_of_ble_eq_true rfl, Nat.le_of_ble_eq_true rfl⟩) (zz_pV (ci := 7) Zc 0 rfl rfl) rfl rfl hl.1 rfl (lv_room (Nat.le_of_ble_eq_true rfl)) dX7_goesOn_2 ⟨Nat.le_of_ble_eq_true rfl, Nat.le_of_ble_eq_true rfl⟩) rfl rfl (fun r3 u1 H1 locs2 hw2 Z3 => ?_)
  clear Z
  have hw2 : r3 = 0 := hw2.trans (by decide)
  subst r3
  have Z4 : zz_S D A s [(mo, .inr (7, [.ref ms, .ref mi, .ref ma, .int j3, .ref mts, .ref mtz, .ref mtn, .ref mh, .ref mhn, .ref mhw, .ref mhz, .ref mhr, .ref mcl, .ref mtp, .int j14, .int j15, .int j16, .int j17, .int j18, .int j19, .int j20, .int j21, .int j22, .int j23, .int j24, .ref mna, .ref mpi, .ref mca, .ref mwa, .int j29, .ref mrd])), (ms, .inl (kms, 3047, .inl f))] [(kms, .int)] H1 locs2 := Z3
  clear Z3
  refine zz_cv (WC := [(mo, .inr (7, [.ref ms, .ref mi, .ref ma, .int j3, .ref mts, .ref mtz, .ref mtn, .ref mh, .ref mhn, .ref mhw, .ref mhz, .ref mhr, .ref mcl, .ref mtp, .int j14, .int j15, .int j16, .int j17, .int j18, .int j19, .int j20, .int j21, .int j22, .int j23, .int j24, .ref mna, .ref mpi, .ref mca, .ref mwa, .int j29, .ref mrd])), (ms, .inl (kms, 3047, .inl f))]) (TC := [(kms, .int)]) (WR := []) (TR := []) (k := 0) (n := 0) Z4 [0, 1] [] [0] [] rfl rfl (by decide +kernel) (by decide +kernel) (by decide +kernel) rfl rfl (fun Zc => va_runV (As := [.int 0]) (rest := []) X (c7_goesOnBy l D mo ms mi ma mts mtz mtn mh mhn mhw mhz mhr mcl mtp mna mpi mca mwa mrd j3 j14 j15 j16 j17 j18 j19 j20 j21 j22 j23 j24 j29 kms f a1 a2 a3 a4 a5 a6 a7 a8 a9 0 0 af_0 af_1 af_2 af_3 af_4 af_5 af_6 af_7 af_8 af_9 af_10 H1.size) (cwV 1 hts gX7_goesOn_X7_goesOnBy rfl rfl rfl ⟨rfl, zh_X7_goesOnBy⟩ ⟨Nat.le_of_ble_eq_true rfl, Nat.le_of_ble_eq_true rfl⟩) (zz_pV (ci := 7) Zc 0 rfl rfl) rfl rfl hl.1 rfl (lv_room (Nat.le_of_ble_eq_true rfl)) dX7_goesOn_5 ⟨Nat.le_of_ble_eq_true rfl, Nat.le_of_ble_eq_true rfl⟩) rfl rfl (fun u4 H5 locs6 hw5 Z7 => ?_)
  clear Z4
  obtain ⟨f97, F98, T99, Z910⟩ := u4
  try dsimp only at hw5 Z7
  obtain ⟨⟨p11, p12, p13, p14, p15, p16, p17, p18, p19, p20, p21⟩, hx22⟩ := hw5
  obtain ⟨rfl, rfl, rfl⟩ := hx22
  have Z8 : zz_S D A s [(mo, .inr (7, [.ref ms, .ref mi, .ref ma, .int j3, .ref mts, .ref mtz, .ref mtn, .ref mh, .ref mhn, .ref mhw, .ref mhz, .ref mhr, .ref mcl, .ref mtp, .int j14, .int j15, .int j16, .int j17, .int j18, .int j19, .int j20, .int j21, .int j22, .int j23, .int j24, .ref mna, .ref mpi, .ref mca, .ref mwa, .int j29, .ref mrd])), (ms, .inl (kms, 3047, .inl f97))] [(kms, .int)] H5 locs6 := Z7
  clear Z7
  exact zz_vret X hr hlk Z8 (f97, zz_mF a7 0 a6 a8 a9, zz_bT a5 a6 a9, zz_bZ a6 a9) ⟨⟨p11, p12, p13, p14, p15, p16, p17, p18, p19, p20, p21⟩, ⟨rfl, rfl, rfl⟩⟩ [0, 1] [0] (by decide +kernel) rfl rfl dX7_goesOn_8
