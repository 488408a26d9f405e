set_option maxHeartbeats 4000000 in
set_option maxRecDepth 100000 in
theorem c7_laysBy (l : Launch) (D : va_G) (mo : Nat) (ms : Nat) (mi : Nat) (ma : Nat) (mts : Nat) (mtz : Nat) (mtn : Nat) (mh : Nat) (mhn : Nat) (mhw : Nat) (mhz : Nat) (mhr : Nat) (mcl : Nat) (mtp : Nat) (mna : Nat) (mpi : Nat) (mca : Nat) (mwa : Nat) (mrd : Nat) (j3 : Int32) (j14 : Int32) (j15 : Int32) (j16 : Int32) (j17 : Int32) (j18 : Int32) (j19 : Int32) (j20 : Int32) (j21 : Int32) (j22 : Int32) (j23 : Int32) (j24 : Int32) (j29 : Int32) (kms : ClassId) (f : (Nat → Int32)) (kcl : ClassId) (cf : (Nat → Int32))  : zz_MV l yX7_laysBy wsX7_laysBy 0 0 0 0 D [.ref mo] [(mo, .inr (7, [.ref ms, .ref mi, .ref ma, .int j3, .ref mts, .ref mtz, .ref mtn, .ref mh, .ref mhn, .ref mhw, .ref mhz, .ref mhr, .ref mcl, .ref mtp, .int j14, .int j15, .int j16, .int j17, .int j18, .int j19, .int j20, .int j21, .int j22, .int j23, .int j24, .ref mna, .ref mpi, .ref mca, .ref mwa, .int j29, .ref mrd])), (ms, .inl (kms, 3047, .inl f)), (mcl, .inl (kcl, 47, .inl cf))] [(kms, .int), (kcl, .int)] (fun (c9 : (Nat → Int32)) => ∀ j, j < 47 → c9 j = f j) (fun (c9 : (Nat → Int32)) => [(mo, .inr (7, [.ref ms, .ref mi, .ref ma, .int j3, .ref mts, .ref mtz, .ref mtn, .ref mh, .ref mhn, .ref mhw, .ref mhz, .ref mhr, .ref mcl, .ref mtp, .int j14, .int j15, .int j16, .int j17, .int j18, .int j19, .int j20, .int j21, .int j22, .int j23, .int j24, .ref mna, .ref mpi, .ref mca, .ref mwa, .int j29, .ref mrd])), (ms, .inl (kms, 3047, .inl f)), (mcl, .inl (kcl, 47, .inl c9))]) (fun (c9 : (Nat → Int32)) => [(kms, .int), (kcl, .int)]) := by
  intro sz
  refine Met.ofW (cc := cX7_laysBy) (maxL := 2) (ret := none) (by decide) rfl ?_
  intro p e s m args below meth c s₁ B hml hv
  obtain ⟨rfl, hC⟩ := hv
  have hx := B.exec
  have hb := B.bytes
  have hr := B.returns
  have hts := atoms_spec (ws := wsX7_laysBy) B.pre
  have hown : s.vm.findClass RX7 = some m.cls := findClass_of_methodNamed B.named
  have hlk := B.notSynchronized
  have X : CallFix p m c cX7_laysBy 2 s _ wsX7_laysBy RX7 := ⟨hx, hb, hml, hown, hts⟩
  have Z := zz_enter hC
  generalize va_A [(mo, .inr (7, [.ref ms, .ref mi, .ref ma, .int j3, .ref mts, .ref mtz, .ref mtn, .ref mh, .ref mhn, .ref mhw, .ref mhz, .ref mhr, .ref mcl, .ref mtp, .int j14, .int j15, .int j16, .int j17, .int j18, .int j19, .int j20, .int j21, .int j22, .int j23, .int j24, .ref mna, .ref mpi, .ref mca, .ref mwa, .int j29, .ref mrd])), (ms, .inl (kms, 3047, .inl f)), (mcl, .inl (kcl, 47, .inl cf))] sz = A at Z ⊢
  have hl := lv_entry ([.ref mo]) (n := 2) (Nat.le_of_ble_eq_true rfl)
  rw [lg_entry_eq]
  generalize (lg_sl ([.ref mo]) ++ List.replicate (2 - (lg_sl ([.ref mo])).length) Slot.unset).toArray = ls at hl ⊢
  have hl : lv_has ls 2 [(0, .ref mo)] := hl
  refine lv_iconst (v := 0) hx hb dX7_laysBy_0 (by decide) ?_
  refine lv_istore_n (lv' := [(1, .int 0), (0, .ref mo)]) hx hb dX7_laysBy_1 rfl hl (by decide) rfl (fun ls1 hl2 => ?_)
  clear hl
  have loop : ∀ (k i : Nat) (vc : (Nat → Int32)), i + k = 47 → (∀ j, j < i → vc j = f j) → ∀ (Hq : Heap) (Lq : List Loc) (lq : Array Slot), zz_S D A s [(mo, .inr (7, [.ref ms, .ref mi, .ref ma, .int j3, .ref mts, .ref mtz, .ref mtn, .ref mh, .ref mhn, .ref mhw, .ref mhz, .ref mhr, .ref mcl, .ref mtp, .int j14, .int j15, .int j16, .int j17, .int j18, .int j19, .int j20, .int j21, .int j22, .int j23, .int j24, .ref mna, .ref mpi, .ref mca, .ref mwa, .int j29, .ref mrd])), (ms, .inl (kms, 3047, .inl f)), (mcl, .inl (kcl, 47, .inl vc))] [(kms, .int), (kcl, .int)] Hq Lq → lv_has lq 2 [(1, .int (nI i)), (0, .ref mo)] → W p l e (headSpec wsX7_laysBy { frames := 0, cells := 0, slots := 0, locals := 0 }).room s m (List.toArray [.ref mo]) below meth c Hq Lq 0 0 (MQ below (va_Qv (fun (c9 : (Nat → Int32)) => ∀ j, j < 47 → c9 j = f j) (fun u t => zz_B D A ((fun (c9 : (Nat → Int32)) => [(mo, .inr (7, [.ref ms, .ref mi, .ref ma, .int j3, .ref mts, .ref mtz, .ref mtn, .ref mh, .ref mhn, .ref mhw, .ref mhz, .ref mhr, .ref mcl, .ref mtp, .int j14, .int j15, .int j16, .int j17, .int j18, .int j19, .int j20, .int j21, .int j22, .int j23, .int j24, .ref mna, .ref mpi, .ref mca, .ref mwa, .int j29, .ref mrd])), (ms, .inl (kms, 3047, .inl f)), (mcl, .inl (kcl, 47, .inl c9))]) u) ((fun (c9 : (Nat → Int32)) => [(kms, .int), (kcl, .int)]) u) t) A) (List.toArray [.ref mo]) s 0 0 A) (F0 m 2 lq []) := by
    intro k
    induction k with
    | zero =>
        intro i vc hik hinv H3 locs4 ls5 Z6 hl7
        refine lv_iload_n hx hb dX7_laysBy_2 rfl (lv_at hl7 0 rfl) ?_
        refine lv_bipush (v := 47) hx hb dX7_laysBy_3 (by decide) ?_
        refine lv_icmp_ge (tgt := 26) hx hb dX7_laysBy_5 (by decide) (fun _ => ?_) (fun h => absurd (nI_le (a := 47) (b := i) (by omega) (by omega)) h)
        exact zz_vret X hr hlk Z6 (vc) (fun j hj => hinv j (by omega)) [0, 1, 2] [0, 1] (by decide +kernel) rfl rfl dX7_laysBy_26
    | succ k ih =>
        intro i vc hik hinv H8 locs9 ls10 Z11 hl12
        refine lv_iload_n hx hb dX7_laysBy_2 rfl (lv_at hl12 0 rfl) ?_
        refine lv_bipush (v := 47) hx hb dX7_laysBy_3 (by decide) ?_
        refine lv_icmp_ge (tgt := 26) hx hb dX7_laysBy_5 (by decide) (fun h => absurd h (nI_ge (a := i) (b := 47) (by omega) (by omega))) (fun _ => ?_)
        refine lv_aload_n hx hb dX7_laysBy_8 rfl (lv_at hl12 1 rfl) ?_
        refine zz_get X Z11 0 rfl rfl (fun w h => List.mem_cons_of_mem _ (List.mem_append_right _ h)) 12 rfl (zz_m 1 rfl) rfl dX7_laysBy_9 ?_
        refine lv_iload_n hx hb dX7_laysBy_12 rfl (lv_at hl12 0 rfl) ?_
        refine lv_aload_n hx hb dX7_laysBy_13 rfl (lv_at hl12 1 rfl) ?_
        refine zz_get X Z11 0 rfl rfl (fun w h => List.mem_cons_of_mem _ (List.mem_append_right _ h)) 0 rfl (zz_m 2 rfl) rfl dX7_laysBy_14 ?_
        refine lv_iload_n hx hb dX7_laysBy_17 rfl (lv_at hl12 0 rfl) ?_
        refine zz_ild X Z11 1 0 rfl rfl (vp_in_nI (n := i) (N := 3047) (by omega) (by omega)) dX7_laysBy_18 ?_
        refine zz_istN (WS' := fun f1 => [(mo, .inr (7, [.ref ms, .ref mi, .ref ma, .int j3, .ref mts, .ref mtz, .ref mtn, .ref mh, .ref mhn, .ref mhw, .ref mhz, .ref mhr, .ref mcl, .ref mtp, .int j14, .int j15, .int j16, .int j17, .int j18, .int j19, .int j20, .int j21, .int j22, .int j23, .int j24, .ref mna, .ref mpi, .ref mca, .ref mwa, .int j29, .ref mrd])), (ms, .inl (kms, 3047, .inl f)), (mcl, .inl (kcl, 47, .inl f1))]) X Z11 2 1 rfl rfl (vp_in_nI (n := i) (N := 47) (by omega) (by omega)) dX7_laysBy_19 (fun _ => rfl) (fun f1 ef2 H13 locs14 Z15 => ?_)
        clear Z11
        refine lv_iinc (v := nI (i + 1)) (lv' := [(1, .int (nI (i + 1))), (0, .ref mo)]) hx hb dX7_laysBy_20 hl12 (k := 0) rfl (nI_1 i) (by decide) rfl (fun ls16 hl17 => ?_)
        clear hl12
        refine lv_goto (tgt := 2) hx hb dX7_laysBy_23 (by decide) ?_
        exact ih (i + 1) f1 (by omega) (by rw [ef2]; exact zz_cp hinv (by omega)) _ _ _ Z15 (lv_sub hl17 [0, 1] rfl)
  exact loop 47 0 cf (by omega) (fun j hj => absurd hj (Nat.not_lt_zero j)) _ _ _ Z hl2

set_option maxHeartbeats 4000000 in
set_option maxRecDepth 100000 in
theorem c7_laysBack (l : Launch) (D : va_G) (mo : Nat) (ms : Nat) (mi : Nat) (ma : Nat) (mts : Nat) (mtz : Nat) (mtn : Nat) (mh : Nat) (mhn : Nat) (mhw : Nat) (mhz : Nat) (mhr : Nat) (mcl : Nat) (mtp : Nat) (mna : Nat) (mpi : Nat) (mca : Nat) (mwa : Nat) (mrd : Nat) (j3 : Int32) (j14 : Int32) (j15 : Int32) (j16 : Int32) (j17 : Int32) (j18 : Int32) (j19 : Int32) (j20 : Int32) (j21 : Int32) (j22 : Int32) (j23 : Int32) (j24 : Int32) (j29 : Int32) (kms : ClassId) (f : (Nat → Int32)) (kcl : ClassId) (cf : (Nat → Int32))  : zz_MV l yX7_laysBack wsX7_laysBack 0 0 0 0 D [.ref mo] [(mo, .inr (7, [.ref ms, .ref mi, .ref ma, .int j3, .ref mts, .ref mtz, .ref mtn, .ref mh, .ref mhn, .ref mhw, .ref mhz, .ref mhr, .ref mcl, .ref mtp, .int j14, .int j15, .int j16, .int j17, .int j18, .int j19, .int j20, .int j21, .int j22, .int j23, .int j24, .ref mna, .ref mpi, .ref mca, .ref mwa, .int j29, .ref mrd])), (ms, .inl (kms, 3047, .inl f)), (mcl, .inl (kcl, 47, .inl cf))] [(kms, .int), (kcl, .int)] (fun (f9 : (Nat → Int32)) => ∀ j, j < 47 → f9 j = cf j) (fun (f9 : (Nat → Int32)) => [(mo, .inr (7, [.ref ms, .ref mi, .ref ma, .int j3, .ref mts, .ref mtz, .ref mtn, .ref mh, .ref mhn, .ref mhw, .ref mhz, .ref mhr, .ref mcl, .ref mtp, .int j14, .int j15, .int j16, .int j17, .int j18, .int j19, .int j20, .int j21, .int j22, .int j23, .int j24, .ref mna, .ref mpi, .ref mca, .ref mwa, .int j29, .ref mrd])), (ms, .inl (kms, 3047, .inl f9)), (mcl, .inl (kcl, 47, .inl cf))]) (fun (f9 : (Nat → Int32)) => [(kms, .int), (kcl, .int)]) := by
  intro sz
  refine Met.ofW (cc := cX7_laysBack) (maxL := 2) (ret := none) (by decide) rfl ?_
  intro p e s m args below meth c s₁ B hml hv
  obtain ⟨rfl, hC⟩ := hv
  have hx := B.exec
  have hb := B.bytes
  have hr := B.returns
  have hts := atoms_spec (ws := wsX7_laysBack) B.pre
  have hown : s.vm.findClass RX7 = some m.cls := findClass_of_methodNamed B.named
  have hlk := B.notSynchronized
  have X : CallFix p m c cX7_laysBack 2 s _ wsX7_laysBack RX7 := ⟨hx, hb, hml, hown, hts⟩
  have Z := zz_enter hC
  generalize va_A [(mo, .inr (7, [.ref ms, .ref mi, .ref ma, .int j3, .ref mts, .ref mtz, .ref mtn, .ref mh, .ref mhn, .ref mhw, .ref mhz, .ref mhr, .ref mcl, .ref mtp, .int j14, .int j15, .int j16, .int j17, .int j18, .int j19, .int j20, .int j21, .int j22, .int j23, .int j24, .ref mna, .ref mpi, .ref mca, .ref mwa, .int j29, .ref mrd])), (ms, .inl (kms, 3047, .inl f)), (mcl, .inl (kcl, 47, .inl cf))] sz = A at Z ⊢
  have hl := lv_entry ([.ref mo]) (n := 2) (Nat.le_of_ble_eq_true rfl)
  rw [lg_entry_eq]
  generalize (lg_sl ([.ref mo]) ++ List.replicate (2 - (lg_sl ([.ref mo])).length) Slot.unset).toArray = ls at hl ⊢
  have hl : lv_has ls 2 [(0, .ref mo)] := hl
  refine lv_iconst (v := 0) hx hb dX7_laysBack_0 (by decide) ?_
  refine lv_istore_n (lv' := [(1, .int 0), (0, .ref mo)]) hx hb dX7_laysBack_1 rfl hl (by decide) rfl (fun ls1 hl2 => ?_)
  clear hl
  have loop : ∀ (k i : Nat) (vf : (Nat → Int32)), i + k = 47 → (∀ j, j < i → vf j = cf j) → ∀ (Hq : Heap) (Lq : List Loc) (lq : Array Slot), zz_S D A s [(mo, .inr (7, [.ref ms, .ref mi, .ref ma, .int j3, .ref mts, .ref mtz, .ref mtn, .ref mh, .ref mhn, .ref mhw, .ref mhz, .ref mhr, .ref mcl, .ref mtp, .int j14, .int j15, .int j16, .int j17, .int j18, .int j19, .int j20, .int j21, .int j22, .int j23, .int j24, .ref mna, .ref mpi, .ref mca, .ref mwa, .int j29, .ref mrd])), (ms, .inl (kms, 3047, .inl vf)), (mcl, .inl (kcl, 47, .inl cf))] [(kms, .int), (kcl, .int)] Hq Lq → lv_has lq 2 [(1, .int (nI i)), (0, .ref mo)] → W p l e (headSpec wsX7_laysBack { frames := 0, cells := 0, slots := 0, locals := 0 }).room s m (List.toArray [.ref mo]) below meth c Hq Lq 0 0 (MQ below (va_Qv (fun (f9 : (Nat → Int32)) => ∀ j, j < 47 → f9 j = cf j) (fun u t => zz_B D A ((fun (f9 : (Nat → Int32)) => [(mo, .inr (7, [.ref ms, .ref mi, .ref ma, .int j3, .ref mts, .ref mtz, .ref mtn, .ref mh, .ref mhn, .ref mhw, .ref mhz, .ref mhr, .ref mcl, .ref mtp, .int j14, .int j15, .int j16, .int j17, .int j18, .int j19, .int j20, .int j21, .int j22, .int j23, .int j24, .ref mna, .ref mpi, .ref mca, .ref mwa, .int j29, .ref mrd])), (ms, .inl (kms, 3047, .inl f9)), (mcl, .inl (kcl, 47, .inl cf))]) u) ((fun (f9 : (Nat → Int32)) => [(kms, .int), (kcl, .int)]) u) t) A) (List.toArray [.ref mo]) s 0 0 A) (F0 m 2 lq []) := by
    intro k
    induction k with
    | zero =>
        intro i vf hik hinv H3 locs4 ls5 Z6 hl7
        refine lv_iload_n hx hb dX7_laysBack_2 rfl (lv_at hl7 0 rfl) ?_
        refine lv_bipush (v := 47) hx hb dX7_laysBack_3 (by decide) ?_
        refine lv_icmp_ge (tgt := 26) hx hb dX7_laysBack_5 (by decide) (fun _ => ?_) (fun h => absurd (nI_le (a := 47) (b := i) (by omega) (by omega)) h)
        exact zz_vret X hr hlk Z6 (vf) (fun j hj => hinv j (by omega)) [0, 1, 2] [0, 1] (by decide +kernel) rfl rfl dX7_laysBack_26
    | succ k ih =>
        intro i vf hik hinv H8 locs9 ls10 Z11 hl12
        refine lv_iload_n hx hb dX7_laysBack_2 rfl (lv_at hl12 0 rfl) ?_
        refine lv_bipush (v := 47) hx hb dX7_laysBack_3 (by decide) ?_
        refine lv_icmp_ge (tgt := 26) hx hb dX7_laysBack_5 (by decide) (fun h => absurd h (nI_ge (a := i) (b := 47) (by omega) (by omega))) (fun _ => ?_)
        refine lv_aload_n hx hb dX7_laysBack_8 rfl (lv_at hl12 1 rfl) ?_
        refine zz_get X Z11 0 rfl rfl (fun w h => List.mem_cons_of_mem _ (List.mem_append_right _ h)) 0 rfl (zz_m 1 rfl) rfl dX7_laysBack_9 ?_
        refine lv_iload_n hx hb dX7_laysBack_12 rfl (lv_at hl12 0 rfl) ?_
        refine lv_aload_n hx hb dX7_laysBack_13 rfl (lv_at hl12 1 rfl) ?_
        refine zz_get X Z11 0 rfl rfl (fun w h => List.mem_cons_of_mem _ (List.mem_append_right _ h)) 12 rfl (zz_m 2 rfl) rfl dX7_laysBack_14 ?_
        refine lv_iload_n hx hb dX7_laysBack_17 rfl (lv_at hl12 0 rfl) ?_
        refine zz_ild X Z11 2 1 rfl rfl (vp_in_nI (n := i) (N := 47) (by omega) (by omega)) dX7_laysBack_18 ?_
        refine zz_istN (WS' := fun f1 => [(mo, .inr (7, [.ref ms, .ref mi, .ref ma, .int j3, .ref mts, .ref mtz, .ref mtn, .ref mh, .ref mhn, .ref mhw, .ref mhz, .ref mhr, .ref mcl, .ref mtp, .int j14, .int j15, .int j16, .int j17, .int j18, .int j19, .int j20, .int j21, .int j22, .int j23, .int j24, .ref mna, .ref mpi, .ref mca, .ref mwa, .int j29, .ref mrd])), (ms, .inl (kms, 3047, .inl f1)), (mcl, .inl (kcl, 47, .inl cf))]) X Z11 1 0 rfl rfl (vp_in_nI (n := i) (N := 3047) (by omega) (by omega)) dX7_laysBack_19 (fun _ => rfl) (fun f1 ef2 H13 locs14 Z15 => ?_)
        clear Z11
        refine lv_iinc (v := nI (i + 1)) (lv' := [(1, .int (nI (i + 1))), (0, .ref mo)]) hx hb dX7_laysBack_20 hl12 (k := 0) rfl (nI_1 i) (by decide) rfl (fun ls16 hl17 => ?_)
        clear hl12
        refine lv_goto (tgt := 2) hx hb dX7_laysBack_23 (by decide) ?_
        exact ih (i + 1) f1 (by omega) (by rw [ef2]; exact zz_cp hinv (by omega)) _ _ _ Z15 (lv_sub hl17 [0, 1] rfl)
  exact loop 47 0 f (by omega) (fun j hj => absurd hj (Nat.not_lt_zero j)) _ _ _ Z hl2

set_option maxHeartbeats 4000000 in
set_option maxRecDepth 100000 in
theorem c7_setAside (l : Launch) (D : va_G) (mo : Nat) (ms : Nat) (mi : Nat) (ma : Nat) (mts : Nat) (mtz : Nat) (mtn : Nat) (mh : Nat) (mhn : Nat) (mhw : Nat) (mhz : Nat) (mhr : Nat) (mcl : Nat) (mtp : Nat) (mna : Nat) (mpi : Nat) (mca : Nat) (mwa : Nat) (mrd : Nat) (j3 : Int32) (j14 : Int32) (j15 : Int32) (j16 : Int32) (j17 : Int32) (j18 : Int32) (j19 : Int32) (j20 : Int32) (j21 : Int32) (j22 : Int32) (j23 : Int32) (j24 : Int32) (j29 : Int32) (ka : ClassId) (fa0 : (Nat → Int32)) (kb : ClassId) (fb0 : (Nat → Int32)) (aa : Nat) (bb : Nat)  : zz_MV l yX7_setAside wsX7_setAside 0 0 0 0 D [.ref mo, .ref aa, .ref bb] [(mo, .inr (7, [.ref ms, .ref mi, .ref ma, .int j3, .ref mts, .ref mtz, .ref mtn, .ref mh, .ref mhn, .ref mhw, .ref mhz, .ref mhr, .ref mcl, .ref mtp, .int j14, .int j15, .int j16, .int j17, .int j18, .int j19, .int j20, .int j21, .int j22, .int j23, .int j24, .ref mna, .ref mpi, .ref mca, .ref mwa, .int j29, .ref mrd])), (aa, .inl (ka, 3047, .inl fa0)), (bb, .inl (kb, 3047, .inl fb0))] [(ka, .int), (kb, .int)] (fun (f9 : (Nat → Int32)) => True) (fun (f9 : (Nat → Int32)) => [(mo, .inr (7, [.ref ms, .ref mi, .ref ma, .int j3, .ref mts, .ref mtz, .ref mtn, .ref mh, .ref mhn, .ref mhw, .ref mhz, .ref mhr, .ref mcl, .ref mtp, .int j14, .int j15, .int j16, .int j17, .int j18, .int j19, .int j20, .int j21, .int j22, .int j23, .int j24, .ref mna, .ref mpi, .ref mca, .ref mwa, .int j29, .ref mrd])), (aa, .inl (ka, 3047, .inl fa0)), (bb, .inl (kb, 3047, .inl f9))]) (fun (f9 : (Nat → Int32)) => [(ka, .int), (kb, .int)]) := by
  intro sz
  refine Met.ofW (cc := cX7_setAside) (maxL := 4) (ret := none) (by decide) rfl ?_
  intro p e s m args below meth c s₁ B hml hv
  obtain ⟨rfl, hC⟩ := hv
  have hx := B.exec
  have hb := B.bytes
  have hr := B.returns
  have hts := atoms_spec (ws := wsX7_setAside) B.pre
  have hown : s.vm.findClass RX7 = some m.cls := findClass_of_methodNamed B.named
  have hlk := B.notSynchronized
  have X : CallFix p m c cX7_setAside 4 s _ wsX7_setAside RX7 := ⟨hx, hb, hml, hown, hts⟩
  have Z := zz_enter hC
  generalize va_A [(mo, .inr (7, [.ref ms, .ref mi, .ref ma, .int j3, .ref mts, .ref mtz, .ref mtn, .ref mh, .ref mhn, .ref mhw, .ref mhz, .ref mhr, .ref mcl, .ref mtp, .int j14, .int j15, .int j16, .int j17, .int j18, .int j19, .int j20, .int j21, .int j22, .int j23, .int j24, .ref mna, .ref mpi, .ref mca, .ref mwa, .int j29, .ref mrd])), (aa, .inl (ka, 3047, .inl fa0)), (bb, .inl (kb, 3047, .inl fb0))] sz = A at Z ⊢
  have hl := lv_entry ([.ref mo, .ref aa, .ref bb]) (n := 4) (Nat.le_of_ble_eq_true rfl)
  rw [lg_entry_eq]
  generalize (lg_sl ([.ref mo, .ref aa, .ref bb]) ++ List.replicate (4 - (lg_sl ([.ref mo, .ref aa, .ref bb])).length) Slot.unset).toArray = ls at hl ⊢
  have hl : lv_has ls 4 [(0, .ref mo), (1, .ref aa), (2, .ref bb)] := hl
  refine lv_iconst (v := 0) hx hb dX7_setAside_0 (by decide) ?_
  refine lv_istore_n (lv' := [(3, .int 0), (0, .ref mo), (1, .ref aa), (2, .ref bb)]) hx hb dX7_setAside_1 rfl hl (by decide) rfl (fun ls1 hl2 => ?_)
  clear hl
  have loop : ∀ (k i : Nat) (vc : (Nat → Int32)), i + k = 2847 → (True) → ∀ (Hq : Heap) (Lq : List Loc) (lq : Array Slot), zz_S D A s [(mo, .inr (7, [.ref ms, .ref mi, .ref ma, .int j3, .ref mts, .ref mtz, .ref mtn, .ref mh, .ref mhn, .ref mhw, .ref mhz, .ref mhr, .ref mcl, .ref mtp, .int j14, .int j15, .int j16, .int j17, .int j18, .int j19, .int j20, .int j21, .int j22, .int j23, .int j24, .ref mna, .ref mpi, .ref mca, .ref mwa, .int j29, .ref mrd])), (aa, .inl (ka, 3047, .inl fa0)), (bb, .inl (kb, 3047, .inl vc))] [(ka, .int), (kb, .int)] Hq Lq → lv_has lq 4 [(3, .int (nI i)), (0, .ref mo), (1, .ref aa), (2, .ref bb)] → W p l e (headSpec wsX7_setAside { frames := 0, cells := 0, slots := 0, locals := 0 }).room s m (List.toArray [.ref mo, .ref aa, .ref bb]) below meth c Hq Lq 0 0 (MQ below (va_Qv (fun (f9 : (Nat → Int32)) => True) (fun u t => zz_B D A ((fun (f9 : (Nat → Int32)) => [(mo, .inr (7, [.ref ms, .ref mi, .ref ma, .int j3, .ref mts, .ref mtz, .ref mtn, .ref mh, .ref mhn, .ref mhw, .ref mhz, .ref mhr, .ref mcl, .ref mtp, .int j14, .int j15, .int j16, .int j17, .int j18, .int j19, .int j20, .int j21, .int j22, .int j23, .int j24, .ref mna, .ref mpi, .ref mca, .ref mwa, .int j29, .ref mrd])), (aa, .inl (ka, 3047, .inl fa0)), (bb, .inl (kb, 3047, .inl f9))]) u) ((fun (f9 : (Nat → Int32)) => [(ka, .int), (kb, .int)]) u) t) A) (List.toArray [.ref mo, .ref aa, .ref bb]) s 0 0 A) (F0 m 2 lq []) := by
    intro k
    induction k with
    | zero =>
        intro i vc hik hinv H3 locs4 ls5 Z6 hl7
        refine lv_iload_n hx hb dX7_setAside_2 rfl (lv_at hl7 0 rfl) ?_
        refine lv_sipush (v := 2847) hx hb dX7_setAside_3 (by decide) ?_
        refine lv_icmp_ge (tgt := 21) hx hb dX7_setAside_6 (by decide) (fun _ => ?_) (fun h => absurd (nI_le (a := 2847) (b := i) (by omega) (by omega)) h)
        exact zz_vret X hr hlk Z6 (vc) trivial [0, 1, 2] [0, 1] (by decide +kernel) rfl rfl dX7_setAside_21
    | succ k ih =>
        intro i vc hik hinv H8 locs9 ls10 Z11 hl12
        refine lv_iload_n hx hb dX7_setAside_2 rfl (lv_at hl12 0 rfl) ?_
        refine lv_sipush (v := 2847) hx hb dX7_setAside_3 (by decide) ?_
        refine lv_icmp_ge (tgt := 21) hx hb dX7_setAside_6 (by decide) (fun h => absurd h (nI_ge (a := i) (b := 2847) (by omega) (by omega))) (fun _ => ?_)
        refine lv_aload_n hx hb dX7_setAside_9 rfl (lv_at hl12 3 rfl) ?_
        refine lv_iload_n hx hb dX7_setAside_10 rfl (lv_at hl12 0 rfl) ?_
        refine lv_aload_n hx hb dX7_setAside_11 rfl (lv_at hl12 2 rfl) ?_
        refine lv_iload_n hx hb dX7_setAside_12 rfl (lv_at hl12 0 rfl) ?_
        refine zz_ild X Z11 1 0 rfl rfl (vp_in_nI (n := i) (N := 3047) (by omega) (by omega)) dX7_setAside_13 ?_
        refine zz_istN (WS' := fun f1 => [(mo, .inr (7, [.ref ms, .ref mi, .ref ma, .int j3, .ref mts, .ref mtz, .ref mtn, .ref mh, .ref mhn, .ref mhw, .ref mhz, .ref mhr, .ref mcl, .ref mtp, .int j14, .int j15, .int j16, .int j17, .int j18, .int j19, .int j20, .int j21, .int j22, .int j23, .int j24, .ref mna, .ref mpi, .ref mca, .ref mwa, .int j29, .ref mrd])), (aa, .inl (ka, 3047, .inl fa0)), (bb, .inl (kb, 3047, .inl f1))]) X Z11 2 1 rfl rfl (vp_in_nI (n := i) (N := 3047) (by omega) (by omega)) dX7_setAside_14 (fun _ => rfl) (fun f1 ef2 H13 locs14 Z15 => ?_)
        clear Z11
        refine lv_iinc (v := nI (i + 1)) (lv' := [(3, .int (nI (i + 1))), (0, .ref mo), (1, .ref aa), (2, .ref bb)]) hx hb dX7_setAside_15 hl12 (k := 0) rfl (nI_1 i) (by decide) rfl (fun ls16 hl17 => ?_)
        clear hl12
        refine lv_goto (tgt := 2) hx hb dX7_setAside_18 (by decide) ?_
        exact ih (i + 1) f1 (by omega) trivial _ _ _ Z15 (lv_sub hl17 [0, 1, 2, 3] rfl)
  exact loop 2847 0 fb0 (by omega) trivial _ _ _ Z hl2

set_option maxHeartbeats 4000000 in
set_option maxRecDepth 100000 in
theorem c7_many (l : Launch) (D : va_G) (mo : Nat) (ms : Nat) (mi : Nat) (ma : Nat) (mts : Nat) (mtz : Nat) (mtn : Nat) (mh : Nat) (mhn : Nat) (mhw : Nat) (mhz : Nat) (mhr : Nat) (mcl : Nat) (mtp : Nat) (mna : Nat) (mpi : Nat) (mca : Nat) (mwa : Nat) (mrd : Nat) (j3 : Int32) (j14 : Int32) (j15 : Int32) (j16 : Int32) (j17 : Int32) (j18 : Int32) (j19 : Int32) (j20 : Int32) (j21 : Int32) (j22 : Int32) (j23 : Int32) (j24 : Int32) (j29 : Int32) (kms : ClassId) (f : (Nat → Int32)) (a1 : Int32) (a2 : Int32) (a3 : Int32) (a4 : Int32) (a5 : Int32) (a6 : Int32) (a7 : Int32) (a8 : Int32) (a9 : Int32) (N : Nat) (af_0 : f 0 = 0) (af_1 : f 1 = a1) (af_2 : f 2 = a2) (af_3 : f 3 = a3) (af_4 : f 4 = a4) (af_5 : f 5 = a5) (af_6 : f 6 = a6) (af_7 : f 7 = a7) (af_8 : f 8 = a8) (af_9 : f 9 = a9) (af_10 : f 10 = 0) (hN : N ≤ 100) : zz_MV l yX7_goesOnMany wsX7_goesOnMany 4 84 0 0 D [.ref mo, .int (nI N)] [(mo, .inr (7, [.ref ms, .ref mi, .ref ma, .int j3, .ref mts, .ref mtz, .ref mtn, .ref mh, .ref mhn, .ref mhw, .ref mhz, .ref mhr, .ref mcl, .ref mtp, .int j14, .int j15, .int j16, .int j17, .int j18, .int j19, .int j20, .int j21, .int j22, .int j23, .int j24, .ref mna, .ref mpi, .ref mca, .ref mwa, .int j29, .ref mrd])), (ms, .inl (kms, 3047, .inl f))] [(kms, .int)] (fun (u : (Nat → Int32) × Int32 × Int32 × Int32 × Int32) => match u with | (f9, F9, T9, Z9, H9) => (f9 0 = 0 ∧ f9 1 = a1 ∧ f9 2 = H9 ∧ f9 3 = a3 ∧ f9 4 = a4 ∧ f9 5 = T9 ∧ f9 6 = Z9 ∧ f9 7 = F9 ∧ f9 8 = a8 ∧ f9 9 = a9 ∧ f9 10 = 0) ∧ ((F9, T9, Z9) = zz_im a8 a9 N (a7, a5, a6))) (fun (u : (Nat → Int32) × Int32 × Int32 × Int32 × Int32) => match u with | (f9, F9, T9, Z9, H9) => [(mo, .inr (7, [.ref ms, .ref mi, .ref ma, .int j3, .ref mts, .ref mtz, .ref mtn, .ref mh, .ref mhn, .ref mhw, .ref mhz, .ref mhr, .ref mcl, .ref mtp, .int j14, .int j15, .int j16, .int j17, .int j18, .int j19, .int j20, .int j21, .int j22, .int j23, .int j24, .ref mna, .ref mpi, .ref mca, .ref mwa, .int j29, .ref mrd])), (ms, .inl (kms, 3047, .inl f9))]) (fun (u : (Nat → Int32) × Int32 × Int32 × Int32 × Int32) => match u with | (f9, F9, T9, Z9, H9) => [(kms, .int)]) := by
  intro sz
  refine Met.ofW (cc := cX7_goesOnMany) (maxL := 3) (ret := none) (by decide) rfl ?_
  intro p e s m args below meth c s₁ B hml hv
  obtain ⟨rfl, hC⟩ := hv
  have hx := B.exec
  have hb := B.bytes
  have hr := B.returns
  have hts := atoms_spec (ws := wsX7_goesOnMany) B.pre
  have hown : s.vm.findClass RX7 = some m.cls := findClass_of_methodNamed B.named
  have hlk := B.notSynchronized
  have X : CallFix p m c cX7_goesOnMany 3 s _ wsX7_goesOnMany RX7 := ⟨hx, hb, hml, hown, hts⟩
  have Z := zz_enter hC
  generalize va_A [(mo, .inr (7, [.ref ms, .ref mi, .ref ma, .int j3, .ref mts, .ref mtz, .ref mtn, .ref mh, .ref mhn, .ref mhw, .ref mhz, .ref mhr, .ref mcl, .ref mtp, .int j14, .int j15, .int j16, .int j17, .int j18, .int j19, .int j20, .int j21, .int j22, .int j23, .int j24, .ref mna, .ref mpi, .ref mca, .ref mwa, .int j29, .ref mrd])), (ms, .inl (kms, 3047, .inl f))] sz = A at Z ⊢
  have hl := lv_entry ([.ref mo, .int (nI N)]) (n := 3) (Nat.le_of_ble_eq_true rfl)
  rw [lg_entry_eq]
  generalize (lg_sl ([.ref mo, .int (nI N)]) ++ List.replicate (3 - (lg_sl ([.ref mo, .int (nI N)])).length) Slot.unset).toArray = ls at hl ⊢
  have hl : lv_has ls 3 [(0, .ref mo), (1, .int (nI N))] := hl
  refine lv_iconst (v := 0) hx hb dX7_goesOnMany_0 (by decide) ?_
  refine lv_istore_n (lv' := [(2, .int 0), (0, .ref mo), (1, .int (nI N))]) hx hb dX7_goesOnMany_1 rfl hl (by decide) rfl (fun ls1 hl2 => ?_)
  clear hl
  have loop : ∀ (k i : Nat) (vf : (Nat → Int32)) (v7 : Int32) (v5 : Int32) (v6 : Int32) (v2 : Int32), i + k = N → (vf 0 = 0 ∧ vf 1 = a1 ∧ vf 2 = v2 ∧ vf 3 = a3 ∧ vf 4 = a4 ∧ vf 5 = v5 ∧ vf 6 = v6 ∧ vf 7 = v7 ∧ vf 8 = a8 ∧ vf 9 = a9 ∧ vf 10 = 0 ∧ zz_im a8 a9 k (v7, v5, v6) = zz_im a8 a9 N (a7, a5, a6)) → ∀ (Hq : Heap) (Lq : List Loc) (lq : Array Slot), zz_S D A s [(mo, .inr (7, [.ref ms, .ref mi, .ref ma, .int j3, .ref mts, .ref mtz, .ref mtn, .ref mh, .ref mhn, .ref mhw, .ref mhz, .ref mhr, .ref mcl, .ref mtp, .int j14, .int j15, .int j16, .int j17, .int j18, .int j19, .int j20, .int j21, .int j22, .int j23, .int j24, .ref mna, .ref mpi, .ref mca, .ref mwa, .int j29, .ref mrd])), (ms, .inl (kms, 3047, .inl vf))] [(kms, .int)] Hq Lq → lv_has lq 3 [(2, .int (nI i)), (0, .ref mo), (1, .int (nI N))] → W p l e (headSpec wsX7_goesOnMany { frames := 4, cells := 0, slots := 0, locals := 84 }).room s m (List.toArray [.ref mo, .int (nI N)]) below meth c Hq Lq 0 0 (MQ below (va_Qv (fun (u : (Nat → Int32) × Int32 × Int32 × Int32 × Int32) => match u with | (f9, F9, T9, Z9, H9) => (f9 0 = 0 ∧ f9 1 = a1 ∧ f9 2 = H9 ∧ f9 3 = a3 ∧ f9 4 = a4 ∧ f9 5 = T9 ∧ f9 6 = Z9 ∧ f9 7 = F9 ∧ f9 8 = a8 ∧ f9 9 = a9 ∧ f9 10 = 0) ∧ ((F9, T9, Z9) = zz_im a8 a9 N (a7, a5, a6))) (fun u t => zz_B D A ((fun (u : (Nat → Int32) × Int32 × Int32 × Int32 × Int32) => match u with | (f9, F9, T9, Z9, H9) => [(mo, .inr (7, [.ref ms, .ref mi, .ref ma, .int j3, .ref mts, .ref mtz, .ref mtn, .ref mh, .ref mhn, .ref mhw, .ref mhz, .ref mhr, .ref mcl, .ref mtp, .int j14, .int j15, .int j16, .int j17, .int j18, .int j19, .int j20, .int j21, .int j22, .int j23, .int j24, .ref mna, .ref mpi, .ref mca, .ref mwa, .int j29, .ref mrd])), (ms, .inl (kms, 3047, .inl f9))]) u) ((fun (u : (Nat → Int32) × Int32 × Int32 × Int32 × Int32) => match u with | (f9, F9, T9, Z9, H9) => [(kms, .int)]) u) t) A) (List.toArray [.ref mo, .int (nI N)]) s 0 0 A) (F0 m 2 lq []) := by
    intro k
    induction k with
    | zero =>
        intro i vf v7 v5 v6 v2 hik hinv H3 locs4 ls5 Z6 hl7
        refine lv_iload_n hx hb dX7_goesOnMany_2 rfl (lv_at hl7 0 rfl) ?_
        refine lv_iload_n hx hb dX7_goesOnMany_3 rfl (lv_at hl7 2 rfl) ?_
        refine lv_icmp_ge (tgt := 17) hx hb dX7_goesOnMany_4 (by decide) (fun _ => ?_) (fun h => absurd (nI_le (a := N) (b := i) (by omega) (by omega)) h)
        exact zz_vret X hr hlk Z6 (vf, v7, v5, v6, v2) ⟨⟨hinv.1, hinv.2.1, hinv.2.2.1, hinv.2.2.2.1, hinv.2.2.2.2.1, hinv.2.2.2.2.2.1, hinv.2.2.2.2.2.2.1, hinv.2.2.2.2.2.2.2.1, hinv.2.2.2.2.2.2.2.2.1, hinv.2.2.2.2.2.2.2.2.2.1, hinv.2.2.2.2.2.2.2.2.2.2.1⟩, hinv.2.2.2.2.2.2.2.2.2.2.2⟩ [0, 1] [0] (by decide +kernel) rfl rfl dX7_goesOnMany_17
    | succ k ih =>
        intro i vf v7 v5 v6 v2 hik hinv H8 locs9 ls10 Z11 hl12
        refine lv_iload_n hx hb dX7_goesOnMany_2 rfl (lv_at hl12 0 rfl) ?_
        refine lv_iload_n hx hb dX7_goesOnMany_3 rfl (lv_at hl12 2 rfl) ?_
        refine lv_icmp_ge (tgt := 17) hx hb dX7_goesOnMany_4 (by decide) (fun h => absurd h (nI_ge (a := i) (b := N) (by omega) (by omega))) (fun _ => ?_)
        refine lv_aload_n hx hb dX7_goesOnMany_7 rfl (lv_at hl12 1 rfl) ?_
        refine zz_cv (WC := [(mo, .inr (7, [.ref ms, .ref mi, .ref ma, .int j3, .ref mts, .ref mtz, .ref mtn, .ref mh, .ref mhn, .ref mhw, .ref mhz, .ref mhr, .ref mcl, .ref mtp, .int j14, .int j15, .int j16, .int j17, .int j18, .int j19, .int j20, .int j21, .int j22, .int j23, .int j24, .ref mna, .ref mpi, .ref mca, .ref mwa, .int j29, .ref mrd])), (ms, .inl (kms, 3047, .inl vf))]) (TC := [(kms, .int)]) (WR := []) (TR := []) (k := 0) (n := 0) Z11 [0, 1] [] [0] [] rfl rfl (by decide +kernel) (by decide +kernel) (by decide +kernel) rfl rfl (fun Zc => va_runV (As := []) (rest := []) X (c7_goesOn l D mo ms mi ma mts mtz mtn mh mhn mhw mhz mhr mcl mtp mna mpi mca mwa mrd j3 j14 j15 j16 j17 j18 j19 j20 j21 j22 j23 j24 j29 kms vf a1 v2 a3 a4 v5 v6 v7 a8 a9 hinv.1 hinv.2.1 hinv.2.2.1 hinv.2.2.2.1 hinv.2.2.2.2.1 hinv.2.2.2.2.2.1 hinv.2.2.2.2.2.2.1 hinv.2.2.2.2.2.2.2.1 hinv.2.2.2.2.2.2.2.2.1 hinv.2.2.2.2.2.2.2.2.2.1 hinv.2.2.2.2.2.2.2.2.2.2.1 H8.size) (cwV 0 hts gX7_goesOnMany_X7_goesOn rfl rfl rfl ⟨rfl, zh_X7_goesOn⟩ ⟨Nat.le_of_ble_eq_true rfl, Nat.le_of_ble_eq_true rfl⟩) (zz_pV (ci := 7) Zc 0 rfl rfl) rfl rfl hl12.1 rfl (lv_room (Nat.le_of_ble_eq_true rfl)) dX7_goesOnMany_8 ⟨Nat.le_of_ble_eq_true rfl, Nat.le_of_ble_eq_true rfl⟩) rfl rfl (fun u1 H13 locs14 hw2 Z15 => ?_)
        clear Z11
        obtain ⟨f94, F95, T96, Z97⟩ := u1
        try dsimp only at hw2 Z15
        obtain ⟨⟨p8, p9, p10, p11, p12, p13, p14, p15, p16, p17, p18⟩, hx19⟩ := hw2
        obtain ⟨rfl, rfl, rfl⟩ := hx19
        have Z16 : zz_S D A s [(mo, .inr (7, [.ref ms, .ref mi, .ref ma, .int j3, .ref mts, .ref mtz, .ref mtn, .ref mh, .ref mhn, .ref mhw, .ref mhz, .ref mhr, .ref mcl, .ref mtp, .int j14, .int j15, .int j16, .int j17, .int j18, .int j19, .int j20, .int j21, .int j22, .int j23, .int j24, .ref mna, .ref mpi, .ref mca, .ref mwa, .int j29, .ref mrd])), (ms, .inl (kms, 3047, .inl f94))] [(kms, .int)] H13 locs14 := Z15
        clear Z15
        refine lv_iinc (v := nI (i + 1)) (lv' := [(2, .int (nI (i + 1))), (0, .ref mo), (1, .int (nI N))]) hx hb dX7_goesOnMany_11 hl12 (k := 0) rfl (nI_1 i) (by decide) rfl (fun ls17 hl18 => ?_)
        clear hl12
        refine lv_goto (tgt := 2) hx hb dX7_goesOnMany_14 (by decide) ?_
        exact ih (i + 1) f94 (zz_mF v7 0 v6 a8 a9) (zz_bT v5 v6 a9) (zz_bZ v6 a9) (v2 + 1) (by omega) ⟨p8, p9, p10, p11, p12, p13, p14, p15, p16, p17, p18, hinv.2.2.2.2.2.2.2.2.2.2.2⟩ _ _ _ Z16 (lv_sub hl18 [0, 1, 2] rfl)
  exact loop N 0 f a7 a5 a6 a2 (by omega) ⟨af_0, af_1, af_2, af_3, af_4, af_5, af_6, af_7, af_8, af_9, af_10, rfl⟩ _ _ _ Z hl2
