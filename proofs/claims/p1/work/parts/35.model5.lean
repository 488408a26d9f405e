set_option maxHeartbeats 4000000 in
set_option maxRecDepth 100000 in
theorem c7_sheet (l : Launch) (D : va_G) (mo : Nat) (ms : Nat) (mi : Nat) (ma : Nat) (mts : Nat) (mtz : Nat) (mtn : Nat) (mh : Nat) (mhn : Nat) (mhw : Nat) (mhz : Nat) (mhr : Nat) (mcl : Nat) (mtp : Nat) (mna : Nat) (mpi : Nat) (mca : Nat) (mwa : Nat) (mrd : Nat) (k_mts : ClassId) (tsf : (Nat → Int32)) (k_mtz : ClassId) (tzf : (Nat → Int32)) (k_mtn : ClassId) (tnf : (Nat → Int32)) (sheet : Int32) (sort : Int32) (n : Int32) (atsf_0 : tsf 0 = (-1)) (atsf_1 : tsf 1 = (-1)) (atsf_2 : tsf 2 = (-1)) (atsf_3 : tsf 3 = (-1)) : zz_MI l yX7_sheet wsX7_sheet 2 45 0 0 D [.ref mo, .int sheet, .int sort, .int n] [(mo, .inr (7, [.ref ms, .ref mi, .ref ma, .int 0, .ref mts, .ref mtz, .ref mtn, .ref mh, .ref mhn, .ref mhw, .ref mhz, .ref mhr, .ref mcl, .ref mtp, .int 0, .int 0, .int 0, .int 0, .int 0, .int 0, .int 0, .int 0, .int 0, .int 0, .int 0, .ref mna, .ref mpi, .ref mca, .ref mwa, .int 0, .ref mrd])), (mts, .inl (k_mts, 4, .inl tsf)), (mtz, .inl (k_mtz, 4, .inl tzf)), (mtn, .inl (k_mtn, 96, .inl tnf))] [(k_mts, .int), (k_mtz, .int), (k_mtn, .int)] (fun (r : Int32) (u : Unit) => r = sp_sheet sheet sort n) (fun (u : Unit) => []) (fun (u : Unit) => []) := by
  intro sz
  refine Met.ofW (cc := cX7_sheet) (maxL := 5) (ret := (some .int)) (by decide) rfl ?_
  intro p e s m args below meth c s₁ B hml hv
  obtain ⟨rfl, hC⟩ := hv
  have hx := B.exec
  have hb := B.bytes
  have hr := B.returns
  have hts := atoms_spec (ws := wsX7_sheet) B.pre
  have hown : s.vm.findClass RX7 = some m.cls := findClass_of_methodNamed B.named
  have hlk := B.notSynchronized
  have X : CallFix p m c cX7_sheet 5 s _ wsX7_sheet RX7 := ⟨hx, hb, hml, hown, hts⟩
  have Z := zz_enter hC
  generalize va_A [(mo, .inr (7, [.ref ms, .ref mi, .ref ma, .int 0, .ref mts, .ref mtz, .ref mtn, .ref mh, .ref mhn, .ref mhw, .ref mhz, .ref mhr, .ref mcl, .ref mtp, .int 0, .int 0, .int 0, .int 0, .int 0, .int 0, .int 0, .int 0, .int 0, .int 0, .int 0, .ref mna, .ref mpi, .ref mca, .ref mwa, .int 0, .ref mrd])), (mts, .inl (k_mts, 4, .inl tsf)), (mtz, .inl (k_mtz, 4, .inl tzf)), (mtn, .inl (k_mtn, 96, .inl tnf))] sz = A at Z ⊢
  have hl := lv_entry ([.ref mo, .int sheet, .int sort, .int n]) (n := 5) (Nat.le_of_ble_eq_true rfl)
  rw [lg_entry_eq]
  generalize (lg_sl ([.ref mo, .int sheet, .int sort, .int n]) ++ List.replicate (5 - (lg_sl ([.ref mo, .int sheet, .int sort, .int n])).length) Slot.unset).toArray = ls at hl ⊢
  have hl : lv_has ls 5 [(0, .ref mo), (1, .int sheet), (2, .int sort), (3, .int n)] := hl
  refine lv_iload_n hx hb dX7_sheet_0 rfl (lv_at hl 1 rfl) ?_
  refine zz_ci (WC := []) (TC := []) (WR := [(mo, .inr (7, [.ref ms, .ref mi, .ref ma, .int 0, .ref mts, .ref mtz, .ref mtn, .ref mh, .ref mhn, .ref mhw, .ref mhz, .ref mhr, .ref mcl, .ref mtp, .int 0, .int 0, .int 0, .int 0, .int 0, .int 0, .int 0, .int 0, .int 0, .int 0, .int 0, .ref mna, .ref mpi, .ref mca, .ref mwa, .int 0, .ref mrd])), (mts, .inl (k_mts, 4, .inl tsf)), (mtz, .inl (k_mtz, 4, .inl tzf)), (mtn, .inl (k_mtn, 96, .inl tnf))]) (TR := [(k_mts, .int), (k_mtz, .int), (k_mtn, .int)]) (k := 0) (n := 0) Z [] [0, 1, 2, 3] [] [0, 1, 2] rfl rfl (by decide +kernel) (by decide +kernel) (by decide +kernel) rfl rfl (fun Zc => va_runS (As := [.int sheet]) (rest := []) X (c7_isSheet l D sheet s.heap.size) (va_cwS 1 hts gX7_sheet_X7_isSheet rfl rfl rfl zh_X7_isSheet ⟨Nat.le_of_ble_eq_true rfl, Nat.le_of_ble_eq_true rfl⟩) (zz_pS Zc) rfl rfl hl.1 rfl (lv_room (Nat.le_of_ble_eq_true rfl)) dX7_sheet_1 ⟨Nat.le_of_ble_eq_true rfl, Nat.le_of_ble_eq_true rfl⟩) rfl rfl (fun r3 u1 H1 locs2 hw2 Z3 => ?_)
  clear Z
  subst r3
  have Z4 : zz_S D A s [(mo, .inr (7, [.ref ms, .ref mi, .ref ma, .int 0, .ref mts, .ref mtz, .ref mtn, .ref mh, .ref mhn, .ref mhw, .ref mhz, .ref mhr, .ref mcl, .ref mtp, .int 0, .int 0, .int 0, .int 0, .int 0, .int 0, .int 0, .int 0, .int 0, .int 0, .int 0, .ref mna, .ref mpi, .ref mca, .ref mwa, .int 0, .ref mrd])), (mts, .inl (k_mts, 4, .inl tsf)), (mtz, .inl (k_mtz, 4, .inl tzf)), (mtn, .inl (k_mtn, 96, .inl tnf))] [(k_mts, .int), (k_mtz, .int), (k_mtn, .int)] H1 locs2 := Z3
  clear Z3
  by_cases w4 : 0 ≤ sheet ∧ sheet ≤ 3
  · obtain ⟨j, hj, e5⟩ := zz_rng 3 w4 (by decide)
    rcases (show j = 0 ∨ j = 1 ∨ j = 2 ∨ j = 3 by omega) with rfl | rfl | rfl | rfl
    · have e5 : sheet = 0 := e5
      subst e5
      refine zz_v (v := 1) (by decide) ?_
      refine lv_if_eq (tgt := 29) hx hb dX7_sheet_4 (by decide) (fun h => absurd h (by decide)) (fun _ => ?_)
      refine lv_iload_n hx hb dX7_sheet_7 rfl (lv_at hl 2 rfl) ?_
      refine lv_i2l (v := Int32.toInt64 sort) hx hb dX7_sheet_8 rfl ?_
      refine lv_ldc2 (v := (-1)) hx hb hown (hts _ (zz_m 1 rfl)) dX7_sheet_9 ?_
      refine zz_vl (v := Int32.toInt64 (-1)) (by decide) ?_
      refine lv_lconst (v := 1) hx hb dX7_sheet_12 (by decide) ?_
      refine zz_vl (v := Int32.toInt64 1) (by decide) ?_
      refine zz_ci (WC := []) (TC := []) (WR := [(mo, .inr (7, [.ref ms, .ref mi, .ref ma, .int 0, .ref mts, .ref mtz, .ref mtn, .ref mh, .ref mhn, .ref mhw, .ref mhz, .ref mhr, .ref mcl, .ref mtp, .int 0, .int 0, .int 0, .int 0, .int 0, .int 0, .int 0, .int 0, .int 0, .int 0, .int 0, .ref mna, .ref mpi, .ref mca, .ref mwa, .int 0, .ref mrd])), (mts, .inl (k_mts, 4, .inl tsf)), (mtz, .inl (k_mtz, 4, .inl tzf)), (mtn, .inl (k_mtn, 96, .inl tnf))]) (TR := [(k_mts, .int), (k_mtz, .int), (k_mtn, .int)]) (k := 0) (n := 0) Z4 [] [0, 1, 2, 3] [] [0, 1, 2] rfl rfl (by decide +kernel) (by decide +kernel) (by decide +kernel) rfl rfl (fun Zc => va_runS (As := [.long (Int32.toInt64 sort), .long (Int32.toInt64 (-1)), .long (Int32.toInt64 1)]) (rest := []) X (c_isIn l D sort (-1) 1 H1.size) (va_cwS 3 hts gX7_sheet_X7_isIn rfl rfl rfl zh_X7_isIn ⟨Nat.le_of_ble_eq_true rfl, Nat.le_of_ble_eq_true rfl⟩) (zz_pS Zc) rfl rfl hl.1 rfl (lv_room (Nat.le_of_ble_eq_true rfl)) dX7_sheet_13 ⟨Nat.le_of_ble_eq_true rfl, Nat.le_of_ble_eq_true rfl⟩) rfl rfl (fun r8 u6 H5 locs6 hw7 Z7 => ?_)
      clear Z4
      subst r8
      have Z8 : zz_S D A s [(mo, .inr (7, [.ref ms, .ref mi, .ref ma, .int 0, .ref mts, .ref mtz, .ref mtn, .ref mh, .ref mhn, .ref mhw, .ref mhz, .ref mhr, .ref mcl, .ref mtp, .int 0, .int 0, .int 0, .int 0, .int 0, .int 0, .int 0, .int 0, .int 0, .int 0, .int 0, .ref mna, .ref mpi, .ref mca, .ref mwa, .int 0, .ref mrd])), (mts, .inl (k_mts, 4, .inl tsf)), (mtz, .inl (k_mtz, 4, .inl tzf)), (mtn, .inl (k_mtn, 96, .inl tnf))] [(k_mts, .int), (k_mtz, .int), (k_mtn, .int)] H5 locs6 := Z7
      clear Z7
      by_cases w9 : (-1) ≤ sort ∧ sort ≤ 1
      · refine zz_v (v := 1) (zz_wiT w9) ?_
        refine lv_if_eq (tgt := 29) hx hb dX7_sheet_16 (by decide) (fun h => absurd h (by decide)) (fun _ => ?_)
        refine lv_iload_n hx hb dX7_sheet_19 rfl (lv_at hl 2 rfl) ?_
        refine lv_if_lt (tgt := 32) hx hb dX7_sheet_20 (by decide) (fun b10 => ?_) (fun b10 => ?_)
        · refine lv_iload_n hx hb dX7_sheet_32 rfl (lv_at hl 2 rfl) ?_
          refine lv_if_lt (tgt := 44) hx hb dX7_sheet_33 (by decide) (fun _ => ?_) (fun h => absurd b10 h)
          refine lv_aload_n hx hb dX7_sheet_44 rfl (lv_at hl 0 rfl) ?_
          refine zz_get X Z8 0 rfl rfl (fun w h => List.mem_cons_of_mem _ (List.mem_append_right _ h)) 4 rfl (zz_m 4 rfl) rfl dX7_sheet_45 ?_
          refine lv_iload_n hx hb dX7_sheet_48 rfl (lv_at hl 1 rfl) ?_
          refine lv_iload_n hx hb dX7_sheet_49 rfl (lv_at hl 2 rfl) ?_
          refine zz_istN (WS' := fun f11 => [(mo, .inr (7, [.ref ms, .ref mi, .ref ma, .int 0, .ref mts, .ref mtz, .ref mtn, .ref mh, .ref mhn, .ref mhw, .ref mhz, .ref mhr, .ref mcl, .ref mtp, .int 0, .int 0, .int 0, .int 0, .int 0, .int 0, .int 0, .int 0, .int 0, .int 0, .int 0, .ref mna, .ref mpi, .ref mca, .ref mwa, .int 0, .ref mrd])), (mts, .inl (k_mts, 4, .inl f11)), (mtz, .inl (k_mtz, 4, .inl tzf)), (mtn, .inl (k_mtn, 96, .inl tnf))]) X Z8 1 0 rfl rfl (zz_in 0 4 rfl) dX7_sheet_50 (fun _ => rfl) (fun f11 ef12 H9 locs10 Z11 => ?_)
          clear Z8
          refine lv_aload_n hx hb dX7_sheet_51 rfl (lv_at hl 0 rfl) ?_
          refine zz_get X Z11 0 rfl rfl (fun w h => List.mem_cons_of_mem _ (List.mem_append_right _ h)) 5 rfl (zz_m 5 rfl) rfl dX7_sheet_52 ?_
          refine lv_iload_n hx hb dX7_sheet_55 rfl (lv_at hl 1 rfl) ?_
          refine lv_iload_n hx hb dX7_sheet_56 rfl (lv_at hl 2 rfl) ?_
          refine lv_if_ge (tgt := 64) hx hb dX7_sheet_57 (by decide) (fun b13 => ?_) (fun b13 => ?_)
          · refine lv_iload_n hx hb dX7_sheet_64 rfl (lv_at hl 3 rfl) ?_
            refine zz_istN (WS' := fun f14 => [(mo, .inr (7, [.ref ms, .ref mi, .ref ma, .int 0, .ref mts, .ref mtz, .ref mtn, .ref mh, .ref mhn, .ref mhw, .ref mhz, .ref mhr, .ref mcl, .ref mtp, .int 0, .int 0, .int 0, .int 0, .int 0, .int 0, .int 0, .int 0, .int 0, .int 0, .int 0, .ref mna, .ref mpi, .ref mca, .ref mwa, .int 0, .ref mrd])), (mts, .inl (k_mts, 4, .inl f11)), (mtz, .inl (k_mtz, 4, .inl f14)), (mtn, .inl (k_mtn, 96, .inl tnf))]) X Z11 2 1 rfl rfl (zz_in 0 4 rfl) dX7_sheet_65 (fun _ => rfl) (fun f14 ef15 H12 locs13 Z14 => ?_)
            clear Z11
            refine lv_iconst (v := 0) hx hb dX7_sheet_66 (by decide) ?_
            refine lv_istore (lv' := [(4, .int 0), (0, .ref mo), (1, .int 0), (2, .int sort), (3, .int n)]) hx hb dX7_sheet_67 hl (by decide) rfl (fun ls15 hl16 => ?_)
            clear hl
            have loop : ∀ (k i : Nat) (vc : (Nat → Int32)), i + k = 24 → (True) → ∀ (Hq : Heap) (Lq : List Loc) (lq : Array Slot), zz_S D A s [(mo, .inr (7, [.ref ms, .ref mi, .ref ma, .int 0, .ref mts, .ref mtz, .ref mtn, .ref mh, .ref mhn, .ref mhw, .ref mhz, .ref mhr, .ref mcl, .ref mtp, .int 0, .int 0, .int 0, .int 0, .int 0, .int 0, .int 0, .int 0, .int 0, .int 0, .int 0, .ref mna, .ref mpi, .ref mca, .ref mwa, .int 0, .ref mrd])), (mts, .inl (k_mts, 4, .inl f11)), (mtz, .inl (k_mtz, 4, .inl f14)), (mtn, .inl (k_mtn, 96, .inl vc))] [(k_mts, .int), (k_mtz, .int), (k_mtn, .int)] Hq Lq → lv_has lq 5 [(4, .int (nI i)), (0, .ref mo), (1, .int 0), (2, .int sort), (3, .int n)] → W p l e (headSpec wsX7_sheet { frames := 2, cells := 0, slots := 0, locals := 45 }).room s m (List.toArray [.ref mo, .int 0, .int sort, .int n]) below meth c Hq Lq 0 0 (MQ below (va_Qi (fun (r : Int32) (u : Unit) => r = sp_sheet 0 sort n) (fun u t => zz_B D A ((fun (u : Unit) => []) u) ((fun (u : Unit) => []) u) t) A) (List.toArray [.ref mo, .int 0, .int sort, .int n]) s 0 0 A) (F0 m 69 lq []) := by
              intro k
              induction k with
              | zero =>
                  intro i vc hik hinv H17 locs18 ls19 Z20 hl21
                  refine lv_iload hx hb dX7_sheet_69 (lv_at hl21 0 rfl) ?_
                  refine lv_bipush (v := 24) hx hb dX7_sheet_71 (by decide) ?_
                  refine lv_icmp_ge (tgt := 95) hx hb dX7_sheet_73 (by decide) (fun _ => ?_) (fun h => absurd (nI_le (a := 24) (b := i) (by omega) (by omega)) h)
                  refine lv_aload_n hx hb dX7_sheet_95 rfl (lv_at hl21 1 rfl) ?_
                  refine zz_get X Z20 0 rfl rfl (fun w h => List.mem_cons_of_mem _ (List.mem_append_right _ h)) 5 rfl (zz_m 5 rfl) rfl dX7_sheet_96 ?_
                  refine lv_iload_n hx hb dX7_sheet_99 rfl (lv_at hl21 2 rfl) ?_
                  refine zz_ild X Z20 2 1 rfl rfl (zz_in 0 4 rfl) dX7_sheet_100 ?_
                  refine zz_v (v := n) (by rw [ef15]; rfl) ?_
                  exact zz_iret X hr hlk Z20 () (by simp [sp_sheet, w9, (zz_tm w9.1 b10)]) [] [] (by decide +kernel) rfl rfl dX7_sheet_101
              | succ k ih =>
                  intro i vc hik hinv H22 locs23 ls24 Z25 hl26
                  refine lv_iload hx hb dX7_sheet_69 (lv_at hl26 0 rfl) ?_
                  refine lv_bipush (v := 24) hx hb dX7_sheet_71 (by decide) ?_
                  refine lv_icmp_ge (tgt := 95) hx hb dX7_sheet_73 (by decide) (fun h => absurd h (nI_ge (a := i) (b := 24) (by omega) (by omega))) (fun _ => ?_)
                  refine lv_aload_n hx hb dX7_sheet_76 rfl (lv_at hl26 1 rfl) ?_
                  refine zz_get X Z25 0 rfl rfl (fun w h => List.mem_cons_of_mem _ (List.mem_append_right _ h)) 6 rfl (zz_m 6 rfl) rfl dX7_sheet_77 ?_
                  refine lv_bipush (v := 24) hx hb dX7_sheet_80 (by decide) ?_
                  refine lv_iload_n hx hb dX7_sheet_82 rfl (lv_at hl26 2 rfl) ?_
                  refine lv_imul hx hb dX7_sheet_83 ?_
                  refine zz_v (v := 0) (by decide) ?_
                  refine lv_iload hx hb dX7_sheet_84 (lv_at hl26 0 rfl) ?_
                  refine lv_iadd hx hb dX7_sheet_86 ?_
                  refine lv_iconst (v := 0) hx hb dX7_sheet_87 (by decide) ?_
                  refine zz_istN (WS' := fun f16 => [(mo, .inr (7, [.ref ms, .ref mi, .ref ma, .int 0, .ref mts, .ref mtz, .ref mtn, .ref mh, .ref mhn, .ref mhw, .ref mhz, .ref mhr, .ref mcl, .ref mtp, .int 0, .int 0, .int 0, .int 0, .int 0, .int 0, .int 0, .int 0, .int 0, .int 0, .int 0, .ref mna, .ref mpi, .ref mca, .ref mwa, .int 0, .ref mrd])), (mts, .inl (k_mts, 4, .inl f11)), (mtz, .inl (k_mtz, 4, .inl f14)), (mtn, .inl (k_mtn, 96, .inl f16))]) X Z25 3 2 rfl rfl (zz_inA 0 i 96 (by omega) (by omega)) dX7_sheet_88 (fun _ => rfl) (fun f16 ef17 H27 locs28 Z29 => ?_)
                  clear Z25
                  refine lv_iinc (v := nI (i + 1)) (lv' := [(4, .int (nI (i + 1))), (0, .ref mo), (1, .int 0), (2, .int sort), (3, .int n)]) hx hb dX7_sheet_89 hl26 (k := 0) rfl (nI_1 i) (by decide) rfl (fun ls30 hl31 => ?_)
                  clear hl26
                  refine lv_goto (tgt := 69) hx hb dX7_sheet_92 (by decide) ?_
                  exact ih (i + 1) f16 (by omega) trivial _ _ _ Z29 (lv_sub hl31 [0, 1, 2, 3, 4] rfl)
            exact loop 24 0 tnf (by omega) trivial _ _ _ Z14 hl16
          · refine lv_iconst (v := 0) hx hb dX7_sheet_60 (by decide) ?_
            refine lv_goto (tgt := 65) hx hb dX7_sheet_61 (by decide) ?_
            refine zz_istN (WS' := fun f18 => [(mo, .inr (7, [.ref ms, .ref mi, .ref ma, .int 0, .ref mts, .ref mtz, .ref mtn, .ref mh, .ref mhn, .ref mhw, .ref mhz, .ref mhr, .ref mcl, .ref mtp, .int 0, .int 0, .int 0, .int 0, .int 0, .int 0, .int 0, .int 0, .int 0, .int 0, .int 0, .ref mna, .ref mpi, .ref mca, .ref mwa, .int 0, .ref mrd])), (mts, .inl (k_mts, 4, .inl f11)), (mtz, .inl (k_mtz, 4, .inl f18)), (mtn, .inl (k_mtn, 96, .inl tnf))]) X Z11 2 1 rfl rfl (zz_in 0 4 rfl) dX7_sheet_65 (fun _ => rfl) (fun f18 ef19 H32 locs33 Z34 => ?_)
            clear Z11
            refine lv_iconst (v := 0) hx hb dX7_sheet_66 (by decide) ?_
            refine lv_istore (lv' := [(4, .int 0), (0, .ref mo), (1, .int 0), (2, .int sort), (3, .int n)]) hx hb dX7_sheet_67 hl (by decide) rfl (fun ls35 hl36 => ?_)
            clear hl
            have loop : ∀ (k i : Nat) (vc : (Nat → Int32)), i + k = 24 → (True) → ∀ (Hq : Heap) (Lq : List Loc) (lq : Array Slot), zz_S D A s [(mo, .inr (7, [.ref ms, .ref mi, .ref ma, .int 0, .ref mts, .ref mtz, .ref mtn, .ref mh, .ref mhn, .ref mhw, .ref mhz, .ref mhr, .ref mcl, .ref mtp, .int 0, .int 0, .int 0, .int 0, .int 0, .int 0, .int 0, .int 0, .int 0, .int 0, .int 0, .ref mna, .ref mpi, .ref mca, .ref mwa, .int 0, .ref mrd])), (mts, .inl (k_mts, 4, .inl f11)), (mtz, .inl (k_mtz, 4, .inl f18)), (mtn, .inl (k_mtn, 96, .inl vc))] [(k_mts, .int), (k_mtz, .int), (k_mtn, .int)] Hq Lq → lv_has lq 5 [(4, .int (nI i)), (0, .ref mo), (1, .int 0), (2, .int sort), (3, .int n)] → W p l e (headSpec wsX7_sheet { frames := 2, cells := 0, slots := 0, locals := 45 }).room s m (List.toArray [.ref mo, .int 0, .int sort, .int n]) below meth c Hq Lq 0 0 (MQ below (va_Qi (fun (r : Int32) (u : Unit) => r = sp_sheet 0 sort n) (fun u t => zz_B D A ((fun (u : Unit) => []) u) ((fun (u : Unit) => []) u) t) A) (List.toArray [.ref mo, .int 0, .int sort, .int n]) s 0 0 A) (F0 m 69 lq []) := by
              intro k
              induction k with
              | zero =>
                  intro i vc hik hinv H37 locs38 ls39 Z40 hl41
                  refine lv_iload hx hb dX7_sheet_69 (lv_at hl41 0 rfl) ?_
                  refine lv_bipush (v := 24) hx hb dX7_sheet_71 (by decide) ?_
                  refine lv_icmp_ge (tgt := 95) hx hb dX7_sheet_73 (by decide) (fun _ => ?_) (fun h => absurd (nI_le (a := 24) (b := i) (by omega) (by omega)) h)
                  refine lv_aload_n hx hb dX7_sheet_95 rfl (lv_at hl41 1 rfl) ?_
                  refine zz_get X Z40 0 rfl rfl (fun w h => List.mem_cons_of_mem _ (List.mem_append_right _ h)) 5 rfl (zz_m 5 rfl) rfl dX7_sheet_96 ?_
                  refine lv_iload_n hx hb dX7_sheet_99 rfl (lv_at hl41 2 rfl) ?_
                  refine zz_ild X Z40 2 1 rfl rfl (zz_in 0 4 rfl) dX7_sheet_100 ?_
                  refine zz_v (v := 0) (by rw [ef19]; rfl) ?_
                  exact zz_iret X hr hlk Z40 () (by simp [sp_sheet, w9, (zz_tm w9.1 b10)]) [] [] (by decide +kernel) rfl rfl dX7_sheet_101
              | succ k ih =>
                  intro i vc hik hinv H42 locs43 ls44 Z45 hl46
                  refine lv_iload hx hb dX7_sheet_69 (lv_at hl46 0 rfl) ?_
                  refine lv_bipush (v := 24) hx hb dX7_sheet_71 (by decide) ?_
                  refine lv_icmp_ge (tgt := 95) hx hb dX7_sheet_73 (by decide) (fun h => absurd h (nI_ge (a := i) (b := 24) (by omega) (by omega))) (fun _ => ?_)
                  refine lv_aload_n hx hb dX7_sheet_76 rfl (lv_at hl46 1 rfl) ?_
                  refine zz_get X Z45 0 rfl rfl (fun w h => List.mem_cons_of_mem _ (List.mem_append_right _ h)) 6 rfl (zz_m 6 rfl) rfl dX7_sheet_77 ?_
                  refine lv_bipush (v := 24) hx hb dX7_sheet_80 (by decide) ?_
                  refine lv_iload_n hx hb dX7_sheet_82 rfl (lv_at hl46 2 rfl) ?_
                  refine lv_imul hx hb dX7_sheet_83 ?_
                  refine zz_v (v := 0) (by decide) ?_
                  refine lv_iload hx hb dX7_sheet_84 (lv_at hl46 0 rfl) ?_
                  refine lv_iadd hx hb dX7_sheet_86 ?_
                  refine lv_iconst (v := 0) hx hb dX7_sheet_87 (by decide) ?_
                  refine zz_istN (WS' := fun f20 => [(mo, .inr (7, [.ref ms, .ref mi, .ref ma, .int 0, .ref mts, .ref mtz, .ref mtn, .ref mh, .ref mhn, .ref mhw, .ref mhz, .ref mhr, .ref mcl, .ref mtp, .int 0, .int 0, .int 0, .int 0, .int 0, .int 0, .int 0, .int 0, .int 0, .int 0, .int 0, .ref mna, .ref mpi, .ref mca, .ref mwa, .int 0, .ref mrd])), (mts, .inl (k_mts, 4, .inl f11)), (mtz, .inl (k_mtz, 4, .inl f18)), (mtn, .inl (k_mtn, 96, .inl f20))]) X Z45 3 2 rfl rfl (zz_inA 0 i 96 (by omega) (by omega)) dX7_sheet_88 (fun _ => rfl) (fun f20 ef21 H47 locs48 Z49 => ?_)
                  clear Z45
                  refine lv_iinc (v := nI (i + 1)) (lv' := [(4, .int (nI (i + 1))), (0, .ref mo), (1, .int 0), (2, .int sort), (3, .int n)]) hx hb dX7_sheet_89 hl46 (k := 0) rfl (nI_1 i) (by decide) rfl (fun ls50 hl51 => ?_)
                  clear hl46
                  refine lv_goto (tgt := 69) hx hb dX7_sheet_92 (by decide) ?_
                  exact ih (i + 1) f20 (by omega) trivial _ _ _ Z49 (lv_sub hl51 [0, 1, 2, 3, 4] rfl)
            exact loop 24 0 tnf (by omega) trivial _ _ _ Z34 hl36
        · refine lv_iload_n hx hb dX7_sheet_23 rfl (lv_at hl 3 rfl) ?_
          refine lv_bipush (v := 24) hx hb dX7_sheet_24 (by decide) ?_
          refine lv_icmp_le (tgt := 32) hx hb dX7_sheet_26 (by decide) (fun b22 => ?_) (fun b22 => ?_)
          · refine lv_iload_n hx hb dX7_sheet_32 rfl (lv_at hl 2 rfl) ?_
            refine lv_if_lt (tgt := 44) hx hb dX7_sheet_33 (by decide) (fun h => absurd h b10) (fun _ => ?_)
            refine lv_iload_n hx hb dX7_sheet_36 rfl (lv_at hl 3 rfl) ?_
            refine lv_if_ge (tgt := 44) hx hb dX7_sheet_37 (by decide) (fun b23 => ?_) (fun b23 => ?_)
            · refine lv_aload_n hx hb dX7_sheet_44 rfl (lv_at hl 0 rfl) ?_
              refine zz_get X Z8 0 rfl rfl (fun w h => List.mem_cons_of_mem _ (List.mem_append_right _ h)) 4 rfl (zz_m 4 rfl) rfl dX7_sheet_45 ?_
              refine lv_iload_n hx hb dX7_sheet_48 rfl (lv_at hl 1 rfl) ?_
              refine lv_iload_n hx hb dX7_sheet_49 rfl (lv_at hl 2 rfl) ?_
              refine zz_istN (WS' := fun f24 => [(mo, .inr (7, [.ref ms, .ref mi, .ref ma, .int 0, .ref mts, .ref mtz, .ref mtn, .ref mh, .ref mhn, .ref mhw, .ref mhz, .ref mhr, .ref mcl, .ref mtp, .int 0, .int 0, .int 0, .int 0, .int 0, .int 0, .int 0, .int 0, .int 0, .int 0, .int 0, .ref mna, .ref mpi, .ref mca, .ref mwa, .int 0, .ref mrd])), (mts, .inl (k_mts, 4, .inl f24)), (mtz, .inl (k_mtz, 4, .inl tzf)), (mtn, .inl (k_mtn, 96, .inl tnf))]) X Z8 1 0 rfl rfl (zz_in 0 4 rfl) dX7_sheet_50 (fun _ => rfl) (fun f24 ef25 H52 locs53 Z54 => ?_)
              clear Z8
              refine lv_aload_n hx hb dX7_sheet_51 rfl (lv_at hl 0 rfl) ?_
              refine zz_get X Z54 0 rfl rfl (fun w h => List.mem_cons_of_mem _ (List.mem_append_right _ h)) 5 rfl (zz_m 5 rfl) rfl dX7_sheet_52 ?_
              refine lv_iload_n hx hb dX7_sheet_55 rfl (lv_at hl 1 rfl) ?_
              refine lv_iload_n hx hb dX7_sheet_56 rfl (lv_at hl 2 rfl) ?_
              refine lv_if_ge (tgt := 64) hx hb dX7_sheet_57 (by decide) (fun b26 => ?_) (fun b26 => ?_)
              · refine lv_iload_n hx hb dX7_sheet_64 rfl (lv_at hl 3 rfl) ?_
                refine zz_istN (WS' := fun f27 => [(mo, .inr (7, [.ref ms, .ref mi, .ref ma, .int 0, .ref mts, .ref mtz, .ref mtn, .ref mh, .ref mhn, .ref mhw, .ref mhz, .ref mhr, .ref mcl, .ref mtp, .int 0, .int 0, .int 0, .int 0, .int 0, .int 0, .int 0, .int 0, .int 0, .int 0, .int 0, .ref mna, .ref mpi, .ref mca, .ref mwa, .int 0, .ref mrd])), (mts, .inl (k_mts, 4, .inl f24)), (mtz, .inl (k_mtz, 4, .inl f27)), (mtn, .inl (k_mtn, 96, .inl tnf))]) X Z54 2 1 rfl rfl (zz_in 0 4 rfl) dX7_sheet_65 (fun _ => rfl) (fun f27 ef28 H55 locs56 Z57 => ?_)
                clear Z54
                refine lv_iconst (v := 0) hx hb dX7_sheet_66 (by decide) ?_
                refine lv_istore (lv' := [(4, .int 0), (0, .ref mo), (1, .int 0), (2, .int sort), (3, .int n)]) hx hb dX7_sheet_67 hl (by decide) rfl (fun ls58 hl59 => ?_)
                clear hl
                have loop : ∀ (k i : Nat) (vc : (Nat → Int32)), i + k = 24 → (True) → ∀ (Hq : Heap) (Lq : List Loc) (lq : Array Slot), zz_S D A s [(mo, .inr (7, [.ref ms, .ref mi, .ref ma, .int 0, .ref mts, .ref mtz, .ref mtn, .ref mh, .ref mhn, .ref mhw, .ref mhz, .ref mhr, .ref mcl, .ref mtp, .int 0, .int 0, .int 0, .int 0, .int 0, .int 0, .int 0, .int 0, .int 0, .int 0, .int 0, .ref mna, .ref mpi, .ref mca, .ref mwa, .int 0, .ref mrd])), (mts, .inl (k_mts, 4, .inl f24)), (mtz, .inl (k_mtz, 4, .inl f27)), (mtn, .inl (k_mtn, 96, .inl vc))] [(k_mts, .int), (k_mtz, .int), (k_mtn, .int)] Hq Lq → lv_has lq 5 [(4, .int (nI i)), (0, .ref mo), (1, .int 0), (2, .int sort), (3, .int n)] → W p l e (headSpec wsX7_sheet { frames := 2, cells := 0, slots := 0, locals := 45 }).room s m (List.toArray [.ref mo, .int 0, .int sort, .int n]) below meth c Hq Lq 0 0 (MQ below (va_Qi (fun (r : Int32) (u : Unit) => r = sp_sheet 0 sort n) (fun u t => zz_B D A ((fun (u : Unit) => []) u) ((fun (u : Unit) => []) u) t) A) (List.toArray [.ref mo, .int 0, .int sort, .int n]) s 0 0 A) (F0 m 69 lq []) := by
                  intro k
                  induction k with
                  | zero =>
                      intro i vc hik hinv H60 locs61 ls62 Z63 hl64
                      refine lv_iload hx hb dX7_sheet_69 (lv_at hl64 0 rfl) ?_
                      refine lv_bipush (v := 24) hx hb dX7_sheet_71 (by decide) ?_
                      refine lv_icmp_ge (tgt := 95) hx hb dX7_sheet_73 (by decide) (fun _ => ?_) (fun h => absurd (nI_le (a := 24) (b := i) (by omega) (by omega)) h)
                      refine lv_aload_n hx hb dX7_sheet_95 rfl (lv_at hl64 1 rfl) ?_
                      refine zz_get X Z63 0 rfl rfl (fun w h => List.mem_cons_of_mem _ (List.mem_append_right _ h)) 5 rfl (zz_m 5 rfl) rfl dX7_sheet_96 ?_
                      refine lv_iload_n hx hb dX7_sheet_99 rfl (lv_at hl64 2 rfl) ?_
                      refine zz_ild X Z63 2 1 rfl rfl (zz_in 0 4 rfl) dX7_sheet_100 ?_
                      refine zz_v (v := n) (by rw [ef28]; rfl) ?_
                      exact zz_iret X hr hlk Z63 () (by simp [sp_sheet, w9, (zz_tn b10), (Int32.not_lt.mpr b22), (Int32.not_lt.mpr b23)]) [] [] (by decide +kernel) rfl rfl dX7_sheet_101
                  | succ k ih =>
                      intro i vc hik hinv H65 locs66 ls67 Z68 hl69
                      refine lv_iload hx hb dX7_sheet_69 (lv_at hl69 0 rfl) ?_
                      refine lv_bipush (v := 24) hx hb dX7_sheet_71 (by decide) ?_
                      refine lv_icmp_ge (tgt := 95) hx hb dX7_sheet_73 (by decide) (fun h => absurd h (nI_ge (a := i) (b := 24) (by omega) (by omega))) (fun _ => ?_)
                      refine lv_aload_n hx hb dX7_sheet_76 rfl (lv_at hl69 1 rfl) ?_
                      refine zz_get X Z68 0 rfl rfl (fun w h => List.mem_cons_of_mem _ (List.mem_append_right _ h)) 6 rfl (zz_m 6 rfl) rfl dX7_sheet_77 ?_
                      refine lv_bipush (v := 24) hx hb dX7_sheet_80 (by decide) ?_
                      refine lv_iload_n hx hb dX7_sheet_82 rfl (lv_at hl69 2 rfl) ?_
                      refine lv_imul hx hb dX7_sheet_83 ?_
                      refine zz_v (v := 0) (by decide) ?_
                      refine lv_iload hx hb dX7_sheet_84 (lv_at hl69 0 rfl) ?_
                      refine lv_iadd hx hb dX7_sheet_86 ?_
                      refine lv_iconst (v := 0) hx hb dX7_sheet_87 (by decide) ?_
                      refine zz_istN (WS' := fun f29 => [(mo, .inr (7, [.ref ms, .ref mi, .ref ma, .int 0, .ref mts, .ref mtz, .ref mtn, .ref mh, .ref mhn, .ref mhw, .ref mhz, .ref mhr, .ref mcl, .ref mtp, .int 0, .int 0, .int 0, .int 0, .int 0, .int 0, .int 0, .int 0, .int 0, .int 0, .int 0, .ref mna, .ref mpi, .ref mca, .ref mwa, .int 0, .ref mrd])), (mts, .inl (k_mts, 4, .inl f24)), (mtz, .inl (k_mtz, 4, .inl f27)), (mtn, .inl (k_mtn, 96, .inl f29))]) X Z68 3 2 rfl rfl (zz_inA 0 i 96 (by omega) (by omega)) dX7_sheet_88 (fun _ => rfl) (fun f29 ef30 H70 locs71 Z72 => ?_)
                      clear Z68
                      refine lv_iinc (v := nI (i + 1)) (lv' := [(4, .int (nI (i + 1))), (0, .ref mo), (1, .int 0), (2, .int sort), (3, .int n)]) hx hb dX7_sheet_89 hl69 (k := 0) rfl (nI_1 i) (by decide) rfl (fun ls73 hl74 => ?_)
                      clear hl69
                      refine lv_goto (tgt := 69) hx hb dX7_sheet_92 (by decide) ?_
                      exact ih (i + 1) f29 (by omega) trivial _ _ _ Z72 (lv_sub hl74 [0, 1, 2, 3, 4] rfl)
                exact loop 24 0 tnf (by omega) trivial _ _ _ Z57 hl59
              · refine lv_iconst (v := 0) hx hb dX7_sheet_60 (by decide) ?_
                refine lv_goto (tgt := 65) hx hb dX7_sheet_61 (by decide) ?_
                refine zz_istN (WS' := fun f31 => [(mo, .inr (7, [.ref ms, .ref mi, .ref ma, .int 0, .ref mts, .ref mtz, .ref mtn, .ref mh, .ref mhn, .ref mhw, .ref mhz, .ref mhr, .ref mcl, .ref mtp, .int 0, .int 0, .int 0, .int 0, .int 0, .int 0, .int 0, .int 0, .int 0, .int 0, .int 0, .ref mna, .ref mpi, .ref mca, .ref mwa, .int 0, .ref mrd])), (mts, .inl (k_mts, 4, .inl f24)), (mtz, .inl (k_mtz, 4, .inl f31)), (mtn, .inl (k_mtn, 96, .inl tnf))]) X Z54 2 1 rfl rfl (zz_in 0 4 rfl) dX7_sheet_65 (fun _ => rfl) (fun f31 ef32 H75 locs76 Z77 => ?_)
                clear Z54
                refine lv_iconst (v := 0) hx hb dX7_sheet_66 (by decide) ?_
                refine lv_istore (lv' := [(4, .int 0), (0, .ref mo), (1, .int 0), (2, .int sort), (3, .int n)]) hx hb dX7_sheet_67 hl (by decide) rfl (fun ls78 hl79 => ?_)
                clear hl
                have loop : ∀ (k i : Nat) (vc : (Nat → Int32)), i + k = 24 → (True) → ∀ (Hq : Heap) (Lq : List Loc) (lq : Array Slot), zz_S D A s [(mo, .inr (7, [.ref ms, .ref mi, .ref ma, .int 0, .ref mts, .ref mtz, .ref mtn, .ref mh, .ref mhn, .ref mhw, .ref mhz, .ref mhr, .ref mcl, .ref mtp, .int 0, .int 0, .int 0, .int 0, .int 0, .int 0, .int 0, .int 0, .int 0, .int 0, .int 0, .ref mna, .ref mpi, .ref mca, .ref mwa, .int 0, .ref mrd])), (mts, .inl (k_mts, 4, .inl f24)), (mtz, .inl (k_mtz, 4, .inl f31)), (mtn, .inl (k_mtn, 96, .inl vc))] [(k_mts, .int), (k_mtz, .int), (k_mtn, .int)] Hq Lq → lv_has lq 5 [(4, .int (nI i)), (0, .ref mo), (1, .int 0), (2, .int sort), (3, .int n)] → W p l e (headSpec wsX7_sheet { frames := 2, cells := 0, slots := 0, locals := 45 }).room s m (List.toArray [.ref mo, .int 0, .int sort, .int n]) below meth c Hq Lq 0 0 (MQ below (va_Qi (fun (r : Int32) (u : Unit) => r = sp_sheet 0 sort n) (fun u t => zz_B D A ((fun (u : Unit) => []) u) ((fun (u : Unit) => []) u) t) A) (List.toArray [.ref mo, .int 0, .int sort, .int n]) s 0 0 A) (F0 m 69 lq []) := by
                  intro k
                  induction k with
                  | zero =>
                      intro i vc hik hinv H80 locs81 ls82 Z83 hl84
                      refine lv_iload hx hb dX7_sheet_69 (lv_at hl84 0 rfl) ?_
                      refine lv_bipush (v := 24) hx hb dX7_sheet_71 (by decide) ?_
                      refine lv_icmp_ge (tgt := 95) hx hb dX7_sheet_73 (by decide) (fun _ => ?_) (fun h => absurd (nI_le (a := 24) (b := i) (by omega) (by omega)) h)
                      refine lv_aload_n hx hb dX7_sheet_95 rfl (lv_at hl84 1 rfl) ?_
                      refine zz_get X Z83 0 rfl rfl (fun w h => List.mem_cons_of_mem _ (List.mem_append_right _ h)) 5 rfl (zz_m 5 rfl) rfl dX7_sheet_96 ?_
                      refine lv_iload_n hx hb dX7_sheet_99 rfl (lv_at hl84 2 rfl) ?_
                      refine zz_ild X Z83 2 1 rfl rfl (zz_in 0 4 rfl) dX7_sheet_100 ?_
                      refine zz_v (v := 0) (by rw [ef32]; rfl) ?_
                      exact zz_iret X hr hlk Z83 () (by simp [sp_sheet, w9, (zz_tn b10), (Int32.not_lt.mpr b22), (Int32.not_lt.mpr b23)]) [] [] (by decide +kernel) rfl rfl dX7_sheet_101
                  | succ k ih =>
                      intro i vc hik hinv H85 locs86 ls87 Z88 hl89
                      refine lv_iload hx hb dX7_sheet_69 (lv_at hl89 0 rfl) ?_
                      refine lv_bipush (v := 24) hx hb dX7_sheet_71 (by decide) ?_
                      refine lv_icmp_ge (tgt := 95) hx hb dX7_sheet_73 (by decide) (fun h => absurd h (nI_ge (a := i) (b := 24) (by omega) (by omega))) (fun _ => ?_)
                      refine lv_aload_n hx hb dX7_sheet_76 rfl (lv_at hl89 1 rfl) ?_
                      refine zz_get X Z88 0 rfl rfl (fun w h => List.mem_cons_of_mem _ (List.mem_append_right _ h)) 6 rfl (zz_m 6 rfl) rfl dX7_sheet_77 ?_
                      refine lv_bipush (v := 24) hx hb dX7_sheet_80 (by decide) ?_
                      refine lv_iload_n hx hb dX7_sheet_82 rfl (lv_at hl89 2 rfl) ?_
                      refine lv_imul hx hb dX7_sheet_83 ?_
                      refine zz_v (v := 0) (by decide) ?_
                      refine lv_iload hx hb dX7_sheet_84 (lv_at hl89 0 rfl) ?_
                      refine lv_iadd hx hb dX7_sheet_86 ?_
                      refine lv_iconst (v := 0) hx hb dX7_sheet_87 (by decide) ?_
                      refine zz_istN (WS' := fun f33 => [(mo, .inr (7, [.ref ms, .ref mi, .ref ma, .int 0, .ref mts, .ref mtz, .ref mtn, .ref mh, .ref mhn, .ref mhw, .ref mhz, .ref mhr, .ref mcl, .ref mtp, .int 0, .int 0, .int 0, .int 0, .int 0, .int 0, .int 0, .int 0, .int 0, .int 0, .int 0, .ref mna, .ref mpi, .ref mca, .ref mwa, .int 0, .ref mrd])), (mts, .inl (k_mts, 4, .inl f24)), (mtz, .inl (k_mtz, 4, .inl f31)), (mtn, .inl (k_mtn, 96, .inl f33))]) X Z88 3 2 rfl rfl (zz_inA 0 i 96 (by omega) (by omega)) dX7_sheet_88 (fun _ => rfl) (fun f33 ef34 H90 locs91 Z92 => ?_)
                      clear Z88
                      refine lv_iinc (v := nI (i + 1)) (lv' := [(4, .int (nI (i + 1))), (0, .ref mo), (1, .int 0), (2, .int sort), (3, .int n)]) hx hb dX7_sheet_89 hl89 (k := 0) rfl (nI_1 i) (by decide) rfl (fun ls93 hl94 => ?_)
                      clear hl89
                      refine lv_goto (tgt := 69) hx hb dX7_sheet_92 (by decide) ?_
                      exact ih (i + 1) f33 (by omega) trivial _ _ _ Z92 (lv_sub hl94 [0, 1, 2, 3, 4] rfl)
                exact loop 24 0 tnf (by omega) trivial _ _ _ Z77 hl79
            · refine lv_ldcw (v := (-1000000014)) hx hb hown (hts _ (zz_m 3 rfl)) dX7_sheet_40 ?_
              exact zz_iret X hr hlk Z8 () (by simp [sp_sheet, w9, (zz_tn b10), (Int32.not_lt.mpr b22), (Int32.not_le.mp b23)]) [] [] (by decide +kernel) rfl rfl dX7_sheet_43
          · refine lv_ldc (v := (-1000000001)) hx hb hown (hts _ (zz_m 2 rfl)) dX7_sheet_29 ?_
            exact zz_iret X hr hlk Z8 () (by simp [sp_sheet, w9, (zz_tn b10), (Int32.not_le.mp b22)]) [] [] (by decide +kernel) rfl rfl dX7_sheet_31
      · refine zz_v (v := 0) (zz_wiF w9) ?_
        refine lv_if_eq (tgt := 29) hx hb dX7_sheet_16 (by decide) (fun _ => ?_) (fun h => absurd (by decide) h)
        refine lv_ldc (v := (-1000000001)) hx hb hown (hts _ (zz_m 2 rfl)) dX7_sheet_29 ?_
        exact zz_iret X hr hlk Z8 () (by simp [sp_sheet, w9]) [] [] (by decide +kernel) rfl rfl dX7_sheet_31
    · have e5 : sheet = 1 := e5
      subst e5
      refine zz_v (v := 1) (by decide) ?_
      refine lv_if_eq (tgt := 29) hx hb dX7_sheet_4 (by decide) (fun h => absurd h (by decide)) (fun _ => ?_)
      refine lv_iload_n hx hb dX7_sheet_7 rfl (lv_at hl 2 rfl) ?_
      refine lv_i2l (v := Int32.toInt64 sort) hx hb dX7_sheet_8 rfl ?_
      refine lv_ldc2 (v := (-1)) hx hb hown (hts _ (zz_m 1 rfl)) dX7_sheet_9 ?_
      refine zz_vl (v := Int32.toInt64 (-1)) (by decide) ?_
      refine lv_lconst (v := 1) hx hb dX7_sheet_12 (by decide) ?_
      refine zz_vl (v := Int32.toInt64 1) (by decide) ?_
      refine zz_ci (WC := []) (TC := []) (WR := [(mo, .inr (7, [.ref ms, .ref mi, .ref ma, .int 0, .ref mts, .ref mtz, .ref mtn, .ref mh, .ref mhn, .ref mhw, .ref mhz, .ref mhr, .ref mcl, .ref mtp, .int 0, .int 0, .int 0, .int 0, .int 0, .int 0, .int 0, .int 0, .int 0, .int 0, .int 0, .ref mna, .ref mpi, .ref mca, .ref mwa, .int 0, .ref mrd])), (mts, .inl (k_mts, 4, .inl tsf)), (mtz, .inl (k_mtz, 4, .inl tzf)), (mtn, .inl (k_mtn, 96, .inl tnf))]) (TR := [(k_mts, .int), (k_mtz, .int), (k_mtn, .int)]) (k := 0) (n := 0) Z4 [] [0, 1, 2, 3] [] [0, 1, 2] rfl rfl (by decide +kernel) (by decide +kernel) (by decide +kernel) rfl rfl (fun Zc => va_runS (As := [.long (Int32.toInt64 sort), .long (Int32.toInt64 (-1)), .long (Int32.toInt64 1)]) (rest := []) X (c_isIn l D sort (-1) 1 H1.size) (va_cwS 3 hts gX7_sheet_X7_isIn rfl rfl rfl zh_X7_isIn ⟨Nat.le_of_ble_eq_true rfl, Nat.le_of_ble_eq_true rfl⟩) (zz_pS Zc) rfl rfl hl.1 rfl (lv_room (Nat.le_of_ble_eq_true rfl)) dX7_sheet_13 ⟨Nat.le_of_ble_eq_true rfl, Nat.le_of_ble_eq_true rfl⟩) rfl rfl (fun r37 u35 H95 locs96 hw36 Z97 => ?_)
      clear Z4
      subst r37
      have Z98 : zz_S D A s [(mo, .inr (7, [.ref ms, .ref mi, .ref ma, .int 0, .ref mts, .ref mtz, .ref mtn, .ref mh, .ref mhn, .ref mhw, .ref mhz, .ref mhr, .ref mcl, .ref mtp, .int 0, .int 0, .int 0, .int 0, .int 0, .int 0, .int 0, .int 0, .int 0, .int 0, .int 0, .ref mna, .ref mpi, .ref mca, .ref mwa, .int 0, .ref mrd])), (mts, .inl (k_mts, 4, .inl tsf)), (mtz, .inl (k_mtz, 4, .inl tzf)), (mtn, .inl (k_mtn, 96, .inl tnf))] [(k_mts, .int), (k_mtz, .int), (k_mtn, .int)] H95 locs96 := Z97
      clear Z97
      by_cases w38 : (-1) ≤ sort ∧ sort ≤ 1
      · refine zz_v (v := 1) (zz_wiT w38) ?_
        refine lv_if_eq (tgt := 29) hx hb dX7_sheet_16 (by decide) (fun h => absurd h (by decide)) (fun _ => ?_)
        refine lv_iload_n hx hb dX7_sheet_19 rfl (lv_at hl 2 rfl) ?_
        refine lv_if_lt (tgt := 32) hx hb dX7_sheet_20 (by decide) (fun b39 => ?_) (fun b39 => ?_)
        · refine lv_iload_n hx hb dX7_sheet_32 rfl (lv_at hl 2 rfl) ?_
          refine lv_if_lt (tgt := 44) hx hb dX7_sheet_33 (by decide) (fun _ => ?_) (fun h => absurd b39 h)
          refine lv_aload_n hx hb dX7_sheet_44 rfl (lv_at hl 0 rfl) ?_
          refine zz_get X Z98 0 rfl rfl (fun w h => List.mem_cons_of_mem _ (List.mem_append_right _ h)) 4 rfl (zz_m 4 rfl) rfl dX7_sheet_45 ?_
          refine lv_iload_n hx hb dX7_sheet_48 rfl (lv_at hl 1 rfl) ?_
          refine lv_iload_n hx hb dX7_sheet_49 rfl (lv_at hl 2 rfl) ?_
          refine zz_istN (WS' := fun f40 => [(mo, .inr (7, [.ref ms, .ref mi, .ref ma, .int 0, .ref mts, .ref mtz, .ref mtn, .ref mh, .ref mhn, .ref mhw, .ref mhz, .ref mhr, .ref mcl, .ref mtp, .int 0, .int 0, .int 0, .int 0, .int 0, .int 0, .int 0, .int 0, .int 0, .int 0, .int 0, .ref mna, .ref mpi, .ref mca, .ref mwa, .int 0, .ref mrd])), (mts, .inl (k_mts, 4, .inl f40)), (mtz, .inl (k_mtz, 4, .inl tzf)), (mtn, .inl (k_mtn, 96, .inl tnf))]) X Z98 1 0 rfl rfl (zz_in 1 4 rfl) dX7_sheet_50 (fun _ => rfl) (fun f40 ef41 H99 locs100 Z101 => ?_)
          clear Z98
          refine lv_aload_n hx hb dX7_sheet_51 rfl (lv_at hl 0 rfl) ?_
          refine zz_get X Z101 0 rfl rfl (fun w h => List.mem_cons_of_mem _ (List.mem_append_right _ h)) 5 rfl (zz_m 5 rfl) rfl dX7_sheet_52 ?_
          refine lv_iload_n hx hb dX7_sheet_55 rfl (lv_at hl 1 rfl) ?_
          refine lv_iload_n hx hb dX7_sheet_56 rfl (lv_at hl 2 rfl) ?_
          refine lv_if_ge (tgt := 64) hx hb dX7_sheet_57 (by decide) (fun b42 => ?_) (fun b42 => ?_)
          · refine lv_iload_n hx hb dX7_sheet_64 rfl (lv_at hl 3 rfl) ?_
            refine zz_istN (WS' := fun f43 => [(mo, .inr (7, [.ref ms, .ref mi, .ref ma, .int 0, .ref mts, .ref mtz, .ref mtn, .ref mh, .ref mhn, .ref mhw, .ref mhz, .ref mhr, .ref mcl, .ref mtp, .int 0, .int 0, .int 0, .int 0, .int 0, .int 0, .int 0, .int 0, .int 0, .int 0, .int 0, .ref mna, .ref mpi, .ref mca, .ref mwa, .int 0, .ref mrd])), (mts, .inl (k_mts, 4, .inl f40)), (mtz, .inl (k_mtz, 4, .inl f43)), (mtn, .inl (k_mtn, 96, .inl tnf))]) X Z101 2 1 rfl rfl (zz_in 1 4 rfl) dX7_sheet_65 (fun _ => rfl) (fun f43 ef44 H102 locs103 Z104 => ?_)
            clear Z101
            refine lv_iconst (v := 0) hx hb dX7_sheet_66 (by decide) ?_
            refine lv_istore (lv' := [(4, .int 0), (0, .ref mo), (1, .int 1), (2, .int sort), (3, .int n)]) hx hb dX7_sheet_67 hl (by decide) rfl (fun ls105 hl106 => ?_)
            clear hl
            have loop : ∀ (k i : Nat) (vc : (Nat → Int32)), i + k = 24 → (True) → ∀ (Hq : Heap) (Lq : List Loc) (lq : Array Slot), zz_S D A s [(mo, .inr (7, [.ref ms, .ref mi, .ref ma, .int 0, .ref mts, .ref mtz, .ref mtn, .ref mh, .ref mhn, .ref mhw, .ref mhz, .ref mhr, .ref mcl, .ref mtp, .int 0, .int 0, .int 0, .int 0, .int 0, .int 0, .int 0, .int 0, .int 0, .int 0, .int 0, .ref mna, .ref mpi, .ref mca, .ref mwa, .int 0, .ref mrd])), (mts, .inl (k_mts, 4, .inl f40)), (mtz, .inl (k_mtz, 4, .inl f43)), (mtn, .inl (k_mtn, 96, .inl vc))] [(k_mts, .int), (k_mtz, .int), (k_mtn, .int)] Hq Lq → lv_has lq 5 [(4, .int (nI i)), (0, .ref mo), (1, .int 1), (2, .int sort), (3, .int n)] → W p l e (headSpec wsX7_sheet { frames := 2, cells := 0, slots := 0, locals := 45 }).room s m (List.toArray [.ref mo, .int 1, .int sort, .int n]) below meth c Hq Lq 0 0 (MQ below (va_Qi (fun (r : Int32) (u : Unit) => r = sp_sheet 1 sort n) (fun u t => zz_B D A ((fun (u : Unit) => []) u) ((fun (u : Unit) => []) u) t) A) (List.toArray [.ref mo, .int 1, .int sort, .int n]) s 0 0 A) (F0 m 69 lq []) := by
              intro k
              induction k with
              | zero =>
                  intro i vc hik hinv H107 locs108 ls109 Z110 hl111
                  refine lv_iload hx hb dX7_sheet_69 (lv_at hl111 0 rfl) ?_
                  refine lv_bipush (v := 24) hx hb dX7_sheet_71 (by decide) ?_
                  refine lv_icmp_ge (tgt := 95) hx hb dX7_sheet_73 (by decide) (fun _ => ?_) (fun h => absurd (nI_le (a := 24) (b := i) (by omega) (by omega)) h)
                  refine lv_aload_n hx hb dX7_sheet_95 rfl (lv_at hl111 1 rfl) ?_
                  refine zz_get X Z110 0 rfl rfl (fun w h => List.mem_cons_of_mem _ (List.mem_append_right _ h)) 5 rfl (zz_m 5 rfl) rfl dX7_sheet_96 ?_
                  refine lv_iload_n hx hb dX7_sheet_99 rfl (lv_at hl111 2 rfl) ?_
                  refine zz_ild X Z110 2 1 rfl rfl (zz_in 1 4 rfl) dX7_sheet_100 ?_
                  refine zz_v (v := n) (by rw [ef44]; rfl) ?_
                  exact zz_iret X hr hlk Z110 () (by simp [sp_sheet, w38, (zz_tm w38.1 b39)]) [] [] (by decide +kernel) rfl rfl dX7_sheet_101
              | succ k ih =>
                  intro i vc hik hinv H112 locs113 ls114 Z115 hl116
                  refine lv_iload hx hb dX7_sheet_69 (lv_at hl116 0 rfl) ?_
                  refine lv_bipush (v := 24) hx hb dX7_sheet_71 (by decide) ?_
                  refine lv_icmp_ge (tgt := 95) hx hb dX7_sheet_73 (by decide) (fun h => absurd h (nI_ge (a := i) (b := 24) (by omega) (by omega))) (fun _ => ?_)
                  refine lv_aload_n hx hb dX7_sheet_76 rfl (lv_at hl116 1 rfl) ?_
                  refine zz_get X Z115 0 rfl rfl (fun w h => List.mem_cons_of_mem _ (List.mem_append_right _ h)) 6 rfl (zz_m 6 rfl) rfl dX7_sheet_77 ?_
                  refine lv_bipush (v := 24) hx hb dX7_sheet_80 (by decide) ?_
                  refine lv_iload_n hx hb dX7_sheet_82 rfl (lv_at hl116 2 rfl) ?_
                  refine lv_imul hx hb dX7_sheet_83 ?_
                  refine zz_v (v := 24) (by decide) ?_
                  refine lv_iload hx hb dX7_sheet_84 (lv_at hl116 0 rfl) ?_
                  refine lv_iadd hx hb dX7_sheet_86 ?_
                  refine lv_iconst (v := 0) hx hb dX7_sheet_87 (by decide) ?_
                  refine zz_istN (WS' := fun f45 => [(mo, .inr (7, [.ref ms, .ref mi, .ref ma, .int 0, .ref mts, .ref mtz, .ref mtn, .ref mh, .ref mhn, .ref mhw, .ref mhz, .ref mhr, .ref mcl, .ref mtp, .int 0, .int 0, .int 0, .int 0, .int 0, .int 0, .int 0, .int 0, .int 0, .int 0, .int 0, .ref mna, .ref mpi, .ref mca, .ref mwa, .int 0, .ref mrd])), (mts, .inl (k_mts, 4, .inl f40)), (mtz, .inl (k_mtz, 4, .inl f43)), (mtn, .inl (k_mtn, 96, .inl f45))]) X Z115 3 2 rfl rfl (zz_inA 24 i 96 (by omega) (by omega)) dX7_sheet_88 (fun _ => rfl) (fun f45 ef46 H117 locs118 Z119 => ?_)
                  clear Z115
                  refine lv_iinc (v := nI (i + 1)) (lv' := [(4, .int (nI (i + 1))), (0, .ref mo), (1, .int 1), (2, .int sort), (3, .int n)]) hx hb dX7_sheet_89 hl116 (k := 0) rfl (nI_1 i) (by decide) rfl (fun ls120 hl121 => ?_)
                  clear hl116
                  refine lv_goto (tgt := 69) hx hb dX7_sheet_92 (by decide) ?_
                  exact ih (i + 1) f45 (by omega) trivial _ _ _ Z119 (lv_sub hl121 [0, 1, 2, 3, 4] rfl)
            exact loop 24 0 tnf (by omega) trivial _ _ _ Z104 hl106
          · refine lv_iconst (v := 0) hx hb dX7_sheet_60 (by decide) ?_
            refine lv_goto (tgt := 65) hx hb dX7_sheet_61 (by decide) ?_
            refine zz_istN (WS' := fun f47 => [(mo, .inr (7, [.ref ms, .ref mi, .ref ma, .int 0, .ref mts, .ref mtz, .ref mtn, .ref mh, .ref mhn, .ref mhw, .ref mhz, .ref mhr, .ref mcl, .ref mtp, .int 0, .int 0, .int 0, .int 0, .int 0, .int 0, .int 0, .int 0, .int 0, .int 0, .int 0, .ref mna, .ref mpi, .ref mca, .ref mwa, .int 0, .ref mrd])), (mts, .inl (k_mts, 4, .inl f40)), (mtz, .inl (k_mtz, 4, .inl f47)), (mtn, .inl (k_mtn, 96, .inl tnf))]) X Z101 2 1 rfl rfl (zz_in 1 4 rfl) dX7_sheet_65 (fun _ => rfl) (fun f47 ef48 H122 locs123 Z124 => ?_)
            clear Z101
            refine lv_iconst (v := 0) hx hb dX7_sheet_66 (by decide) ?_
            refine lv_istore (lv' := [(4, .int 0), (0, .ref mo), (1, .int 1), (2, .int sort), (3, .int n)]) hx hb dX7_sheet_67 hl (by decide) rfl (fun ls125 hl126 => ?_)
            clear hl
            have loop : ∀ (k i : Nat) (vc : (Nat → Int32)), i + k = 24 → (True) → ∀ (Hq : Heap) (Lq : List Loc) (lq : Array Slot), zz_S D A s [(mo, .inr (7, [.ref ms, .ref mi, .ref ma, .int 0, .ref mts, .ref mtz, .ref mtn, .ref mh, .ref mhn, .ref mhw, .ref mhz, .ref mhr, .ref mcl, .ref mtp, .int 0, .int 0, .int 0, .int 0, .int 0, .int 0, .int 0, .int 0, .int 0, .int 0, .int 0, .ref mna, .ref mpi, .ref mca, .ref mwa, .int 0, .ref mrd])), (mts, .inl (k_mts, 4, .inl f40)), (mtz, .inl (k_mtz, 4, .inl f47)), (mtn, .inl (k_mtn, 96, .inl vc))] [(k_mts, .int), (k_mtz, .int), (k_mtn, .int)] Hq Lq → lv_has lq 5 [(4, .int (nI i)), (0, .ref mo), (1, .int 1), (2, .int sort), (3, .int n)] → W p l e (headSpec wsX7_sheet { frames := 2, cells := 0, slots := 0, locals := 45 }).room s m (List.toArray [.ref mo, .int 1, .int sort, .int n]) below meth c Hq Lq 0 0 (MQ below (va_Qi (fun (r : Int32) (u : Unit) => r = sp_sheet 1 sort n) (fun u t => zz_B D A ((fun (u : Unit) => []) u) ((fun (u : Unit) => []) u) t) A) (List.toArray [.ref mo, .int 1, .int sort, .int n]) s 0 0 A) (F0 m 69 lq []) := by
              intro k
              induction k with
              | zero =>
                  intro i vc hik hinv H127 locs128 ls129 Z130 hl131
                  refine lv_iload hx hb dX7_sheet_69 (lv_at hl131 0 rfl) ?_
                  refine lv_bipush (v := 24) hx hb dX7_sheet_71 (by decide) ?_
                  refine lv_icmp_ge (tgt := 95) hx hb dX7_sheet_73 (by decide) (fun _ => ?_) (fun h => absurd (nI_le (a := 24) (b := i) (by omega) (by omega)) h)
                  refine lv_aload_n hx hb dX7_sheet_95 rfl (lv_at hl131 1 rfl) ?_
                  refine zz_get X Z130 0 rfl rfl (fun w h => List.mem_cons_of_mem _ (List.mem_append_right _ h)) 5 rfl (zz_m 5 rfl) rfl dX7_sheet_96 ?_
                  refine lv_iload_n hx hb dX7_sheet_99 rfl (lv_at hl131 2 rfl) ?_
                  refine zz_ild X Z130 2 1 rfl rfl (zz_in 1 4 rfl) dX7_sheet_100 ?_
                  refine zz_v (v := 0) (by rw [ef48]; rfl) ?_
                  exact zz_iret X hr hlk Z130 () (by simp [sp_sheet, w38, (zz_tm w38.1 b39)]) [] [] (by decide +kernel) rfl rfl dX7_sheet_101
              | succ k ih =>
                  intro i vc hik hinv H132 locs133 ls134 Z135 hl136
                  refine lv_iload hx hb dX7_sheet_69 (lv_at hl136 0 rfl) ?_
                  refine lv_bipush (v := 24) hx hb dX7_sheet_71 (by decide) ?_
                  refine lv_icmp_ge (tgt := 95) hx hb dX7_sheet_73 (by decide) (fun h => absurd h (nI_ge (a := i) (b := 24) (by omega) (by omega))) (fun _ => ?_)
                  refine lv_aload_n hx hb dX7_sheet_76 rfl (lv_at hl136 1 rfl) ?_
                  refine zz_get X Z135 0 rfl rfl (fun w h => List.mem_cons_of_mem _ (List.mem_append_right _ h)) 6 rfl (zz_m 6 rfl) rfl dX7_sheet_77 ?_
                  refine lv_bipush (v := 24) hx hb dX7_sheet_80 (by decide) ?_
                  refine lv_iload_n hx hb dX7_sheet_82 rfl (lv_at hl136 2 rfl) ?_
                  refine lv_imul hx hb dX7_sheet_83 ?_
                  refine zz_v (v := 24) (by decide) ?_
                  refine lv_iload hx hb dX7_sheet_84 (lv_at hl136 0 rfl) ?_
                  refine lv_iadd hx hb dX7_sheet_86 ?_
                  refine lv_iconst (v := 0) hx hb dX7_sheet_87 (by decide) ?_
                  refine zz_istN (WS' := fun f49 => [(mo, .inr (7, [.ref ms, .ref mi, .ref ma, .int 0, .ref mts, .ref mtz, .ref mtn, .ref mh, .ref mhn, .ref mhw, .ref mhz, .ref mhr, .ref mcl, .ref mtp, .int 0, .int 0, .int 0, .int 0, .int 0, .int 0, .int 0, .int 0, .int 0, .int 0, .int 0, .ref mna, .ref mpi, .ref mca, .ref mwa, .int 0, .ref mrd])), (mts, .inl (k_mts, 4, .inl f40)), (mtz, .inl (k_mtz, 4, .inl f47)), (mtn, .inl (k_mtn, 96, .inl f49))]) X Z135 3 2 rfl rfl (zz_inA 24 i 96 (by omega) (by omega)) dX7_sheet_88 (fun _ => rfl) (fun f49 ef50 H137 locs138 Z139 => ?_)
                  clear Z135
                  refine lv_iinc (v := nI (i + 1)) (lv' := [(4, .int (nI (i + 1))), (0, .ref mo), (1, .int 1), (2, .int sort), (3, .int n)]) hx hb dX7_sheet_89 hl136 (k := 0) rfl (nI_1 i) (by decide) rfl (fun ls140 hl141 => ?_)
                  clear hl136
                  refine lv_goto (tgt := 69) hx hb dX7_sheet_92 (by decide) ?_
                  exact ih (i + 1) f49 (by omega) trivial _ _ _ Z139 (lv_sub hl141 [0, 1, 2, 3, 4] rfl)
            exact loop 24 0 tnf (by omega) trivial _ _ _ Z124 hl126
        · refine lv_iload_n hx hb dX7_sheet_23 rfl (lv_at hl 3 rfl) ?_
          refine lv_bipush (v := 24) hx hb dX7_sheet_24 (by decide) ?_
          refine lv_icmp_le (tgt := 32) hx hb dX7_sheet_26 (by decide) (fun b51 => ?_) (fun b51 => ?_)
          · refine lv_iload_n hx hb dX7_sheet_32 rfl (lv_at hl 2 rfl) ?_
            refine lv_if_lt (tgt := 44) hx hb dX7_sheet_33 (by decide) (fun h => absurd h b39) (fun _ => ?_)
            refine lv_iload_n hx hb dX7_sheet_36 rfl (lv_at hl 3 rfl) ?_
            refine lv_if_ge (tgt := 44) hx hb dX7_sheet_37 (by decide) (fun b52 => ?_) (fun b52 => ?_)
            · refine lv_aload_n hx hb dX7_sheet_44 rfl (lv_at hl 0 rfl) ?_
              refine zz_get X Z98 0 rfl rfl (fun w h => List.mem_cons_of_mem _ (List.mem_append_right _ h)) 4 rfl (zz_m 4 rfl) rfl dX7_sheet_45 ?_
              refine lv_iload_n hx hb dX7_sheet_48 rfl (lv_at hl 1 rfl) ?_
              refine lv_iload_n hx hb dX7_sheet_49 rfl (lv_at hl 2 rfl) ?_
              refine zz_istN (WS' := fun f53 => [(mo, .inr (7, [.ref ms, .ref mi, .ref ma, .int 0, .ref mts, .ref mtz, .ref mtn, .ref mh, .ref mhn, .ref mhw, .ref mhz, .ref mhr, .ref mcl, .ref mtp, .int 0, .int 0, .int 0, .int 0, .int 0, .int 0, .int 0, .int 0, .int 0, .int 0, .int 0, .ref mna, .ref mpi, .ref mca, .ref mwa, .int 0, .ref mrd])), (mts, .inl (k_mts, 4, .inl f53)), (mtz, .inl (k_mtz, 4, .inl tzf)), (mtn, .inl (k_mtn, 96, .inl tnf))]) X Z98 1 0 rfl rfl (zz_in 1 4 rfl) dX7_sheet_50 (fun _ => rfl) (fun f53 ef54 H142 locs143 Z144 => ?_)
              clear Z98
              refine lv_aload_n hx hb dX7_sheet_51 rfl (lv_at hl 0 rfl) ?_
              refine zz_get X Z144 0 rfl rfl (fun w h => List.mem_cons_of_mem _ (List.mem_append_right _ h)) 5 rfl (zz_m 5 rfl) rfl dX7_sheet_52 ?_
              refine lv_iload_n hx hb dX7_sheet_55 rfl (lv_at hl 1 rfl) ?_
              refine lv_iload_n hx hb dX7_sheet_56 rfl (lv_at hl 2 rfl) ?_
              refine lv_if_ge (tgt := 64) hx hb dX7_sheet_57 (by decide) (fun b55 => ?_) (fun b55 => ?_)
              · refine lv_iload_n hx hb dX7_sheet_64 rfl (lv_at hl 3 rfl) ?_
                refine zz_istN (WS' := fun f56 => [(mo, .inr (7, [.ref ms, .ref mi, .ref ma, .int 0, .ref mts, .ref mtz, .ref mtn, .ref mh, .ref mhn, .ref mhw, .ref mhz, .ref mhr, .ref mcl, .ref mtp, .int 0, .int 0, .int 0, .int 0, .int 0, .int 0, .int 0, .int 0, .int 0, .int 0, .int 0, .ref mna, .ref mpi, .ref mca, .ref mwa, .int 0, .ref mrd])), (mts, .inl (k_mts, 4, .inl f53)), (mtz, .inl (k_mtz, 4, .inl f56)), (mtn, .inl (k_mtn, 96, .inl tnf))]) X Z144 2 1 rfl rfl (zz_in 1 4 rfl) dX7_sheet_65 (fun _ => rfl) (fun f56 ef57 H145 locs146 Z147 => ?_)
                clear Z144
                refine lv_iconst (v := 0) hx hb dX7_sheet_66 (by decide) ?_
                refine lv_istore (lv' := [(4, .int 0), (0, .ref mo), (1, .int 1), (2, .int sort), (3, .int n)]) hx hb dX7_sheet_67 hl (by decide) rfl (fun ls148 hl149 => ?_)
                clear hl
                have loop : ∀ (k i : Nat) (vc : (Nat → Int32)), i + k = 24 → (True) → ∀ (Hq : Heap) (Lq : List Loc) (lq : Array Slot), zz_S D A s [(mo, .inr (7, [.ref ms, .ref mi, .ref ma, .int 0, .ref mts, .ref mtz, .ref mtn, .ref mh, .ref mhn, .ref mhw, .ref mhz, .ref mhr, .ref mcl, .ref mtp, .int 0, .int 0, .int 0, .int 0, .int 0, .int 0, .int 0, .int 0, .int 0, .int 0, .int 0, .ref mna, .ref mpi, .ref mca, .ref mwa, .int 0, .ref mrd])), (mts, .inl (k_mts, 4, .inl f53)), (mtz, .inl (k_mtz, 4, .inl f56)), (mtn, .inl (k_mtn, 96, .inl vc))] [(k_mts, .int), (k_mtz, .int), (k_mtn, .int)] Hq Lq → lv_has lq 5 [(4, .int (nI i)), (0, .ref mo), (1, .int 1), (2, .int sort), (3, .int n)] → W p l e (headSpec wsX7_sheet { frames := 2, cells := 0, slots := 0, locals := 45 }).room s m (List.toArray [.ref mo, .int 1, .int sort, .int n]) below meth c Hq Lq 0 0 (MQ below (va_Qi (fun (r : Int32) (u : Unit) => r = sp_sheet 1 sort n) (fun u t => zz_B D A ((fun (u : Unit) => []) u) ((fun (u : Unit) => []) u) t) A) (List.toArray [.ref mo, .int 1, .int sort, .int n]) s 0 0 A) (F0 m 69 lq []) := by
                  intro k
                  induction k with
                  | zero =>
                      intro i vc hik hinv H150 locs151 ls152 Z153 hl154
                      refine lv_iload hx hb dX7_sheet_69 (lv_at hl154 0 rfl) ?_
                      refine lv_bipush (v := 24) hx hb dX7_sheet_71 (by decide) ?_
                      refine lv_icmp_ge (tgt := 95) hx hb dX7_sheet_73 (by decide) (fun _ => ?_) (fun h => absurd (nI_le (a := 24) (b := i) (by omega) (by omega)) h)
                      refine lv_aload_n hx hb dX7_sheet_95 rfl (lv_at hl154 1 rfl) ?_
                      refine zz_get X Z153 0 rfl rfl (fun w h => List.mem_cons_of_mem _ (List.mem_append_right _ h)) 5 rfl (zz_m 5 rfl) rfl dX7_sheet_96 ?_
                      refine lv_iload_n hx hb dX7_sheet_99 rfl (lv_at hl154 2 rfl) ?_
                      refine zz_ild X Z153 2 1 rfl rfl (zz_in 1 4 rfl) dX7_sheet_100 ?_
                      refine zz_v (v := n) (by rw [ef57]; rfl) ?_
                      exact zz_iret X hr hlk Z153 () (by simp [sp_sheet, w38, (zz_tn b39), (Int32.not_lt.mpr b51), (Int32.not_lt.mpr b52)]) [] [] (by decide +kernel) rfl rfl dX7_sheet_101
                  | succ k ih =>
                      intro i vc hik hinv H155 locs156 ls157 Z158 hl159
                      refine lv_iload hx hb dX7_sheet_69 (lv_at hl159 0 rfl) ?_
                      refine lv_bipush (v := 24) hx hb dX7_sheet_71 (by decide) ?_
                      refine lv_icmp_ge (tgt := 95) hx hb dX7_sheet_73 (by decide) (fun h => absurd h (nI_ge (a := i) (b := 24) (by omega) (by omega))) (fun _ => ?_)
                      refine lv_aload_n hx hb dX7_sheet_76 rfl (lv_at hl159 1 rfl) ?_
                      refine zz_get X Z158 0 rfl rfl (fun w h => List.mem_cons_of_mem _ (List.mem_append_right _ h)) 6 rfl (zz_m 6 rfl) rfl dX7_sheet_77 ?_
                      refine lv_bipush (v := 24) hx hb dX7_sheet_80 (by decide) ?_
                      refine lv_iload_n hx hb dX7_sheet_82 rfl (lv_at hl159 2 rfl) ?_
                      refine lv_imul hx hb dX7_sheet_83 ?_
                      refine zz_v (v := 24) (by decide) ?_
                      refine lv_iload hx hb dX7_sheet_84 (lv_at hl159 0 rfl) ?_
                      refine lv_iadd hx hb dX7_sheet_86 ?_
                      refine lv_iconst (v := 0) hx hb dX7_sheet_87 (by decide) ?_
                      refine zz_istN (WS' := fun f58 => [(mo, .inr (7, [.ref ms, .ref mi, .ref ma, .int 0, .ref mts, .ref mtz, .ref mtn, .ref mh, .ref mhn, .ref mhw, .ref mhz, .ref mhr, .ref mcl, .ref mtp, .int 0, .int 0, .int 0, .int 0, .int 0, .int 0, .int 0, .int 0, .int 0, .int 0, .int 0, .ref mna, .ref mpi, .ref mca, .ref mwa, .int 0, .ref mrd])), (mts, .inl (k_mts, 4, .inl f53)), (mtz, .inl (k_mtz, 4, .inl f56)), (mtn, .inl (k_mtn, 96, .inl f58))]) X Z158 3 2 rfl rfl (zz_inA 24 i 96 (by omega) (by omega)) dX7_sheet_88 (fun _ => rfl) (fun f58 ef59 H160 locs161 Z162 => ?_)
                      clear Z158
                      refine lv_iinc (v := nI (i + 1)) (lv' := [(4, .int (nI (i + 1))), (0, .ref mo), (1, .int 1), (2, .int sort), (3, .int n)]) hx hb dX7_sheet_89 hl159 (k := 0) rfl (nI_1 i) (by decide) rfl (fun ls163 hl164 => ?_)
                      clear hl159
                      refine lv_goto (tgt := 69) hx hb dX7_sheet_92 (by decide) ?_
                      exact ih (i + 1) f58 (by omega) trivial _ _ _ Z162 (lv_sub hl164 [0, 1, 2, 3, 4] rfl)
                exact loop 24 0 tnf (by omega) trivial _ _ _ Z147 hl149
              · refine lv_iconst (v := 0) hx hb dX7_sheet_60 (by decide) ?_
                refine lv_goto (tgt := 65) hx hb dX7_sheet_61 (by decide) ?_
                refine zz_istN (WS' := fun f60 => [(mo, .inr (7, [.ref ms, .ref mi, .ref ma, .int 0, .ref mts, .ref mtz, .ref mtn, .ref mh, .ref mhn, .ref mhw, .ref mhz, .ref mhr, .ref mcl, .ref mtp, .int 0, .int 0, .int 0, .int 0, .int 0, .int 0, .int 0, .int 0, .int 0, .int 0, .int 0, .ref mna, .ref mpi, .ref mca, .ref mwa, .int 0, .ref mrd])), (mts, .inl (k_mts, 4, .inl f53)), (mtz, .inl (k_mtz, 4, .inl f60)), (mtn, .inl (k_mtn, 96, .inl tnf))]) X Z144 2 1 rfl rfl (zz_in 1 4 rfl) dX7_sheet_65 (fun _ => rfl) (fun f60 ef61 H165 locs166 Z167 => ?_)
                clear Z144
                refine lv_iconst (v := 0) hx hb dX7_sheet_66 (by decide) ?_
                refine lv_istore (lv' := [(4, .int 0), (0, .ref mo), (1, .int 1), (2, .int sort), (3, .int n)]) hx hb dX7_sheet_67 hl (by decide) rfl (fun ls168 hl169 => ?_)
                clear hl
                have loop : ∀ (k i : Nat) (vc : (Nat → Int32)), i + k = 24 → (True) → ∀ (Hq : Heap) (Lq : List Loc) (lq : Array Slot), zz_S D A s [(mo, .inr (7, [.ref ms, .ref mi, .ref ma, .int 0, .ref mts, .ref mtz, .ref mtn, .ref mh, .ref mhn, .ref mhw, .ref mhz, .ref mhr, .ref mcl, .ref mtp, .int 0, .int 0, .int 0, .int 0, .int 0, .int 0, .int 0, .int 0, .int 0, .int 0, .int 0, .ref mna, .ref mpi, .ref mca, .ref mwa, .int 0, .ref mrd])), (mts, .inl (k_mts, 4, .inl f53)), (mtz, .inl (k_mtz, 4, .inl f60)), (mtn, .inl (k_mtn, 96, .inl vc))] [(k_mts, .int), (k_mtz, .int), (k_mtn, .int)] Hq Lq → lv_has lq 5 [(4, .int (nI i)), (0, .ref mo), (1, .int 1), (2, .int sort), (3, .int n)] → W p l e (headSpec wsX7_sheet { frames := 2, cells := 0, slots := 0, locals := 45 }).room s m (List.toArray [.ref mo, .int 1, .int sort, .int n]) below meth c Hq Lq 0 0 (MQ below (va_Qi (fun (r : Int32) (u : Unit) => r = sp_sheet 1 sort n) (fun u t => zz_B D A ((fun (u : Unit) => []) u) ((fun (u : Unit) => []) u) t) A) (List.toArray [.ref mo, .int 1, .int sort, .int n]) s 0 0 A) (F0 m 69 lq []) := by
                  intro k
                  induction k with
                  | zero =>
                      intro i vc hik hinv H170 locs171 ls172 Z173 hl174
                      refine lv_iload hx hb dX7_sheet_69 (lv_at hl174 0 rfl) ?_
                      refine lv_bipush (v := 24) hx hb dX7_sheet_71 (by decide) ?_
                      refine lv_icmp_ge (tgt := 95) hx hb dX7_sheet_73 (by decide) (fun _ => ?_) (fun h => absurd (nI_le (a := 24) (b := i) (by omega) (by omega)) h)
                      refine lv_aload_n hx hb dX7_sheet_95 rfl (lv_at hl174 1 rfl) ?_
                      refine zz_get X Z173 0 rfl rfl (fun w h => List.mem_cons_of_mem _ (List.mem_append_right _ h)) 5 rfl (zz_m 5 rfl) rfl dX7_sheet_96 ?_
                      refine lv_iload_n hx hb dX7_sheet_99 rfl (lv_at hl174 2 rfl) ?_
                      refine zz_ild X Z173 2 1 rfl rfl (zz_in 1 4 rfl) dX7_sheet_100 ?_
                      refine zz_v (v := 0) (by rw [ef61]; rfl) ?_
                      exact zz_iret X hr hlk Z173 () (by simp [sp_sheet, w38, (zz_tn b39), (Int32.not_lt.mpr b51), (Int32.not_lt.mpr b52)]) [] [] (by decide +kernel) rfl rfl dX7_sheet_101
                  | succ k ih =>
                      intro i vc hik hinv H175 locs176 ls177 Z178 hl179
                      refine lv_iload hx hb dX7_sheet_69 (lv_at hl179 0 rfl) ?_
                      refine lv_bipush (v := 24) hx hb dX7_sheet_71 (by decide) ?_
                      refine lv_icmp_ge (tgt := 95) hx hb dX7_sheet_73 (by decide) (fun h => absurd h (nI_ge (a := i) (b := 24) (by omega) (by omega))) (fun _ => ?_)
                      refine lv_aload_n hx hb dX7_sheet_76 rfl (lv_at hl179 1 rfl) ?_
                      refine zz_get X Z178 0 rfl rfl (fun w h => List.mem_cons_of_mem _ (List.mem_append_right _ h)) 6 rfl (zz_m 6 rfl) rfl dX7_sheet_77 ?_
                      refine lv_bipush (v := 24) hx hb dX7_sheet_80 (by decide) ?_
                      refine lv_iload_n hx hb dX7_sheet_82 rfl (lv_at hl179 2 rfl) ?_
                      refine lv_imul hx hb dX7_sheet_83 ?_
                      refine zz_v (v := 24) (by decide) ?_
                      refine lv_iload hx hb dX7_sheet_84 (lv_at hl179 0 rfl) ?_
                      refine lv_iadd hx hb dX7_sheet_86 ?_
                      refine lv_iconst (v := 0) hx hb dX7_sheet_87 (by decide) ?_
                      refine zz_istN (WS' := fun f62 => [(mo, .inr (7, [.ref ms, .ref mi, .ref ma, .int 0, .ref mts, .ref mtz, .ref mtn, .ref mh, .ref mhn, .ref mhw, .ref mhz, .ref mhr, .ref mcl, .ref mtp, .int 0, .int 0, .int 0, .int 0, .int 0, .int 0, .int 0, .int 0, .int 0, .int 0, .int 0, .ref mna, .ref mpi, .ref mca, .ref mwa, .int 0, .ref mrd])), (mts, .inl (k_mts, 4, .inl f53)), (mtz, .inl (k_mtz, 4, .inl f60)), (mtn, .inl (k_mtn, 96, .inl f62))]) X Z178 3 2 rfl rfl (zz_inA 24 i 96 (by omega) (by omega)) dX7_sheet_88 (fun _ => rfl) (fun f62 ef63 H180 locs181 Z182 => ?_)
                      clear Z178
                      refine lv_iinc (v := nI (i + 1)) (lv' := [(4, .int (nI (i + 1))), (0, .ref mo), (1, .int 1), (2, .int sort), (3, .int n)]) hx hb dX7_sheet_89 hl179 (k := 0) rfl (nI_1 i) (by decide) rfl (fun ls183 hl184 => ?_)
                      clear hl179
                      refine lv_goto (tgt := 69) hx hb dX7_sheet_92 (by decide) ?_
                      exact ih (i + 1) f62 (by omega) trivial _ _ _ Z182 (lv_sub hl184 [0, 1, 2, 3, 4] rfl)
                exact loop 24 0 tnf (by omega) trivial _ _ _ Z167 hl169
            · refine lv_ldcw (v := (-1000000014)) hx hb hown (hts _ (zz_m 3 rfl)) dX7_sheet_40 ?_
              exact zz_iret X hr hlk Z98 () (by simp [sp_sheet, w38, (zz_tn b39), (Int32.not_lt.mpr b51), (Int32.not_le.mp b52)]) [] [] (by decide +kernel) rfl rfl dX7_sheet_43
          · refine lv_ldc (v := (-1000000001)) hx hb hown (hts _ (zz_m 2 rfl)) dX7_sheet_29 ?_
            exact zz_iret X hr hlk Z98 () (by simp [sp_sheet, w38, (zz_tn b39), (Int32.not_le.mp b51)]) [] [] (by decide +kernel) rfl rfl dX7_sheet_31
      · refine zz_v (v := 0) (zz_wiF w38) ?_
        refine lv_if_eq (tgt := 29) hx hb dX7_sheet_16 (by decide) (fun _ => ?_) (fun h => absurd (by decide) h)
        refine lv_ldc (v := (-1000000001)) hx hb hown (hts _ (zz_m 2 rfl)) dX7_sheet_29 ?_
        exact zz_iret X hr hlk Z98 () (by simp [sp_sheet, w38]) [] [] (by decide +kernel) rfl rfl dX7_sheet_31
    · have e5 : sheet = 2 := e5
      subst e5
      refine zz_v (v := 1) (by decide) ?_
      refine lv_if_eq (tgt := 29) hx hb dX7_sheet_4 (by decide) (fun h => absurd h (by decide)) (fun _ => ?_)
      refine lv_iload_n hx hb dX7_sheet_7 rfl (lv_at hl 2 rfl) ?_
      refine lv_i2l (v := Int32.toInt64 sort) hx hb dX7_sheet_8 rfl ?_
      refine lv_ldc2 (v := (-1)) hx hb hown (hts _ (zz_m 1 rfl)) dX7_sheet_9 ?_
      refine zz_vl (v := Int32.toInt64 (-1)) (by decide) ?_
      refine lv_lconst (v := 1) hx hb dX7_sheet_12 (by decide) ?_
      refine zz_vl (v := Int32.toInt64 1) (by decide) ?_
      refine zz_ci (WC := []) (TC := []) (WR := [(mo, .inr (7, [.ref ms, .ref mi, .ref ma, .int 0, .ref mts, .ref mtz, .ref mtn, .ref mh, .ref mhn, .ref mhw, .ref mhz, .ref mhr, .ref mcl, .ref mtp, .int 0, .int 0, .int 0, .int 0, .int 0, .int 0, .int 0, .int 0, .int 0, .int 0, .int 0, .ref mna, .ref mpi, .ref mca, .ref mwa, .int 0, .ref mrd])), (mts, .inl (k_mts, 4, .inl tsf)), (mtz, .inl (k_mtz, 4, .inl tzf)), (mtn, .inl (k_mtn, 96, .inl tnf))]) (TR := [(k_mts, .int), (k_mtz, .int), (k_mtn, .int)]) (k := 0) (n := 0) Z4 [] [0, 1, 2, 3] [] [0, 1, 2] rfl rfl (by decide +kernel) (by decide +kernel) (by decide +kernel) rfl rfl (fun Zc => va_runS (As := [.long (Int32.toInt64 sort), .long (Int32.toInt64 (-1)), .long (Int32.toInt64 1)]) (rest := []) X (c_isIn l D sort (-1) 1 H1.size) (va_cwS 3 hts gX7_sheet_X7_isIn rfl rfl rfl zh_X7_isIn ⟨Nat.le_of_ble_eq_true rfl, Nat.le_of_ble_eq_true rfl⟩) (zz_pS Zc) rfl rfl hl.1 rfl (lv_room (Nat.le_of_ble_eq_true rfl)) dX7_sheet_13 ⟨Nat.le_of_ble_eq_true rfl, Nat.le_of_ble_eq_true rfl⟩) rfl rfl (fun r66 u64 H185 locs186 hw65 Z187 => ?_)
      clear Z4
      subst r66
      have Z188 : zz_S D A s [(mo, .inr (7, [.ref ms, .ref mi, .ref ma, .int 0, .ref mts, .ref mtz, .ref mtn, .ref mh, .ref mhn, .ref mhw, .ref mhz, .ref mhr, .ref mcl, .ref mtp, .int 0, .int 0, .int 0, .int 0, .int 0, .int 0, .int 0, .int 0, .int 0, .int 0, .int 0, .ref mna, .ref mpi, .ref mca, .ref mwa, .int 0, .ref mrd])), (mts, .inl (k_mts, 4, .inl tsf)), (mtz, .inl (k_mtz, 4, .inl tzf)), (mtn, .inl (k_mtn, 96, .inl tnf))] [(k_mts, .int), (k_mtz, .int), (k_mtn, .int)] H185 locs186 := Z187
      clear Z187
      by_cases w67 : (-1) ≤ sort ∧ sort ≤ 1
      · refine zz_v (v := 1) (zz_wiT w67) ?_
        refine lv_if_eq (tgt := 29) hx hb dX7_sheet_16 (by decide) (fun h => absurd h (by decide)) (fun _ => ?_)
        refine lv_iload_n hx hb dX7_sheet_19 rfl (lv_at hl 2 rfl) ?_
        refine lv_if_lt (tgt := 32) hx hb dX7_sheet_20 (by decide) (fun b68 => ?_) (fun b68 => ?_)
        · refine lv_iload_n hx hb dX7_sheet_32 rfl (lv_at hl 2 rfl) ?_
          refine lv_if_lt (tgt := 44) hx hb dX7_sheet_33 (by decide) (fun _ => ?_) (fun h => absurd b68 h)
          refine lv_aload_n hx hb dX7_sheet_44 rfl (lv_at hl 0 rfl) ?_
          refine zz_get X Z188 0 rfl rfl (fun w h => List.mem_cons_of_mem _ (List.mem_append_right _ h)) 4 rfl (zz_m 4 rfl) rfl dX7_sheet_45 ?_
          refine lv_iload_n hx hb dX7_sheet_48 rfl (lv_at hl 1 rfl) ?_
          refine lv_iload_n hx hb dX7_sheet_49 rfl (lv_at hl 2 rfl) ?_
          refine zz_istN (WS' := fun f69 => [(mo, .inr (7, [.ref ms, .ref mi, .ref ma, .int 0, .ref mts, .ref mtz, .ref mtn, .ref mh, .ref mhn, .ref mhw, .ref mhz, .ref mhr, .ref mcl, .ref mtp, .int 0, .int 0, .int 0, .int 0, .int 0, .int 0, .int 0, .int 0, .int 0, .int 0, .int 0, .ref mna, .ref mpi, .ref mca, .ref mwa, .int 0, .ref mrd])), (mts, .inl (k_mts, 4, .inl f69)), (mtz, .inl (k_mtz, 4, .inl tzf)), (mtn, .inl (k_mtn, 96, .inl tnf))]) X Z188 1 0 rfl rfl (zz_in 2 4 rfl) dX7_sheet_50 (fun _ => rfl) (fun f69 ef70 H189 locs190 Z191 => ?_)
          clear Z188
          refine lv_aload_n hx hb dX7_sheet_51 rfl (lv_at hl 0 rfl) ?_
          refine zz_get X Z191 0 rfl rfl (fun w h => List.mem_cons_of_mem _ (List.mem_append_right _ h)) 5 rfl (zz_m 5 rfl) rfl dX7_sheet_52 ?_
          refine lv_iload_n hx hb dX7_sheet_55 rfl (lv_at hl 1 rfl) ?_
          refine lv_iload_n hx hb dX7_sheet_56 rfl (lv_at hl 2 rfl) ?_
          refine lv_if_ge (tgt := 64) hx hb dX7_sheet_57 (by decide) (fun b71 => ?_) (fun b71 => ?_)
          · refine lv_iload_n hx hb dX7_sheet_64 rfl (lv_at hl 3 rfl) ?_
            refine zz_istN (WS' := fun f72 => [(mo, .inr (7, [.ref ms, .ref mi, .ref ma, .int 0, .ref mts, .ref mtz, .ref mtn, .ref mh, .ref mhn, .ref mhw, .ref mhz, .ref mhr, .ref mcl, .ref mtp, .int 0, .int 0, .int 0, .int 0, .int 0, .int 0, .int 0, .int 0, .int 0, .int 0, .int 0, .ref mna, .ref mpi, .ref mca, .ref mwa, .int 0, .ref mrd])), (mts, .inl (k_mts, 4, .inl f69)), (mtz, .inl (k_mtz, 4, .inl f72)), (mtn, .inl (k_mtn, 96, .inl tnf))]) X Z191 2 1 rfl rfl (zz_in 2 4 rfl) dX7_sheet_65 (fun _ => rfl) (fun f72 ef73 H192 locs193 Z194 => ?_)
            clear Z191
            refine lv_iconst (v := 0) hx hb dX7_sheet_66 (by decide) ?_
            refine lv_istore (lv' := [(4, .int 0), (0, .ref mo), (1, .int 2), (2, .int sort), (3, .int n)]) hx hb dX7_sheet_67 hl (by decide) rfl (fun ls195 hl196 => ?_)
            clear hl
            have loop : ∀ (k i : Nat) (vc : (Nat → Int32)), i + k = 24 → (True) → ∀ (Hq : Heap) (Lq : List Loc) (lq : Array Slot), zz_S D A s [(mo, .inr (7, [.ref ms, .ref mi, .ref ma, .int 0, .ref mts, .ref mtz, .ref mtn, .ref mh, .ref mhn, .ref mhw, .ref mhz, .ref mhr, .ref mcl, .ref mtp, .int 0, .int 0, .int 0, .int 0, .int 0, .int 0, .int 0, .int 0, .int 0, .int 0, .int 0, .ref mna, .ref mpi, .ref mca, .ref mwa, .int 0, .ref mrd])), (mts, .inl (k_mts, 4, .inl f69)), (mtz, .inl (k_mtz, 4, .inl f72)), (mtn, .inl (k_mtn, 96, .inl vc))] [(k_mts, .int), (k_mtz, .int), (k_mtn, .int)] Hq Lq → lv_has lq 5 [(4, .int (nI i)), (0, .ref mo), (1, .int 2), (2, .int sort), (3, .int n)] → W p l e (headSpec wsX7_sheet { frames := 2, cells := 0, slots := 0, locals := 45 }).room s m (List.toArray [.ref mo, .int 2, .int sort, .int n]) below meth c Hq Lq 0 0 (MQ below (va_Qi (fun (r : Int32) (u : Unit) => r = sp_sheet 2 sort n) (fun u t => zz_B D A ((fun (u : Unit) => []) u) ((fun (u : Unit) => []) u) t) A) (List.toArray [.ref mo, .int 2, .int sort, .int n]) s 0 0 A) (F0 m 69 lq []) := by
              intro k
              induction k with
              | zero =>
                  intro i vc hik hinv H197 locs198 ls199 Z200 hl201
                  refine lv_iload hx hb dX7_sheet_69 (lv_at hl201 0 rfl) ?_
                  refine lv_bipush (v := 24) hx hb dX7_sheet_71 (by decide) ?_
                  refine lv_icmp_ge (tgt := 95) hx hb dX7_sheet_73 (by decide) (fun _ => ?_) (fun h => absurd (nI_le (a := 24) (b := i) (by omega) (by omega)) h)
                  refine lv_aload_n hx hb dX7_sheet_95 rfl (lv_at hl201 1 rfl) ?_
                  refine zz_get X Z200 0 rfl rfl (fun w h => List.mem_cons_of_mem _ (List.mem_append_right _ h)) 5 rfl (zz_m 5 rfl) rfl dX7_sheet_96 ?_
                  refine lv_iload_n hx hb dX7_sheet_99 rfl (lv_at hl201 2 rfl) ?_
                  refine zz_ild X Z200 2 1 rfl rfl (zz_in 2 4 rfl) dX7_sheet_100 ?_
                  refine zz_v (v := n) (by rw [ef73]; rfl) ?_
                  exact zz_iret X hr hlk Z200 () (by simp [sp_sheet, w67, (zz_tm w67.1 b68)]) [] [] (by decide +kernel) rfl rfl dX7_sheet_101
              | succ k ih =>
                  intro i vc hik hinv H202 locs203 ls204 Z205 hl206
                  refine lv_iload hx hb dX7_sheet_69 (lv_at hl206 0 rfl) ?_
                  refine lv_bipush (v := 24) hx hb dX7_sheet_71 (by decide) ?_
                  refine lv_icmp_ge (tgt := 95) hx hb dX7_sheet_73 (by decide) (fun h => absurd h (nI_ge (a := i) (b := 24) (by omega) (by omega))) (fun _ => ?_)
                  refine lv_aload_n hx hb dX7_sheet_76 rfl (lv_at hl206 1 rfl) ?_
                  refine zz_get X Z205 0 rfl rfl (fun w h => List.mem_cons_of_mem _ (List.mem_append_right _ h)) 6 rfl (zz_m 6 rfl) rfl dX7_sheet_77 ?_
                  refine lv_bipush (v := 24) hx hb dX7_sheet_80 (by decide) ?_
                  refine lv_iload_n hx hb dX7_sheet_82 rfl (lv_at hl206 2 rfl) ?_
                  refine lv_imul hx hb dX7_sheet_83 ?_
                  refine zz_v (v := 48) (by decide) ?_
                  refine lv_iload hx hb dX7_sheet_84 (lv_at hl206 0 rfl) ?_
                  refine lv_iadd hx hb dX7_sheet_86 ?_
                  refine lv_iconst (v := 0) hx hb dX7_sheet_87 (by decide) ?_
                  refine zz_istN (WS' := fun f74 => [(mo, .inr (7, [.ref ms, .ref mi, .ref ma, .int 0, .ref mts, .ref mtz, .ref mtn, .ref mh, .ref mhn, .ref mhw, .ref mhz, .ref mhr, .ref mcl, .ref mtp, .int 0, .int 0, .int 0, .int 0, .int 0, .int 0, .int 0, .int 0, .int 0, .int 0, .int 0, .ref mna, .ref mpi, .ref mca, .ref mwa, .int 0, .ref mrd])), (mts, .inl (k_mts, 4, .inl f69)), (mtz, .inl (k_mtz, 4, .inl f72)), (mtn, .inl (k_mtn, 96, .inl f74))]) X Z205 3 2 rfl rfl (zz_inA 48 i 96 (by omega) (by omega)) dX7_sheet_88 (fun _ => rfl) (fun f74 ef75 H207 locs208 Z209 => ?_)
                  clear Z205
                  refine lv_iinc (v := nI (i + 1)) (lv' := [(4, .int (nI (i + 1))), (0, .ref mo), (1, .int 2), (2, .int sort), (3, .int n)]) hx hb dX7_sheet_89 hl206 (k := 0) rfl (nI_1 i) (by decide) rfl (fun ls210 hl211 => ?_)
                  clear hl206
                  refine lv_goto (tgt := 69) hx hb dX7_sheet_92 (by decide) ?_
                  exact ih (i + 1) f74 (by omega) trivial _ _ _ Z209 (lv_sub hl211 [0, 1, 2, 3, 4] rfl)
            exact loop 24 0 tnf (by omega) trivial _ _ _ Z194 hl196
          · refine lv_iconst (v := 0) hx hb dX7_sheet_60 (by decide) ?_
            refine lv_goto (tgt := 65) hx hb dX7_sheet_61 (by decide) ?_
            refine zz_istN (WS' := fun f76 => [(mo, .inr (7, [.ref ms, .ref mi, .ref ma, .int 0, .ref mts, .ref mtz, .ref mtn, .ref mh, .ref mhn, .ref mhw, .ref mhz, .ref mhr, .ref mcl, .ref mtp, .int 0, .int 0, .int 0, .int 0, .int 0, .int 0, .int 0, .int 0, .int 0, .int 0, .int 0, .ref mna, .ref mpi, .ref mca, .ref mwa, .int 0, .ref mrd])), (mts, .inl (k_mts, 4, .inl f69)), (mtz, .inl (k_mtz, 4, .inl f76)), (mtn, .inl (k_mtn, 96, .inl tnf))]) X Z191 2 1 rfl rfl (zz_in 2 4 rfl) dX7_sheet_65 (fun _ => rfl) (fun f76 ef77 H212 locs213 Z214 => ?_)
            clear Z191
            refine lv_iconst (v := 0) hx hb dX7_sheet_66 (by decide) ?_
            refine lv_istore (lv' := [(4, .int 0), (0, .ref mo), (1, .int 2), (2, .int sort), (3, .int n)]) hx hb dX7_sheet_67 hl (by decide) rfl (fun ls215 hl216 => ?_)
            clear hl
            have loop : ∀ (k i : Nat) (vc : (Nat → Int32)), i + k = 24 → (True) → ∀ (Hq : Heap) (Lq : List Loc) (lq : Array Slot), zz_S D A s [(mo, .inr (7, [.ref ms, .ref mi, .ref ma, .int 0, .ref mts, .ref mtz, .ref mtn, .ref mh, .ref mhn, .ref mhw, .ref mhz, .ref mhr, .ref mcl, .ref mtp, .int 0, .int 0, .int 0, .int 0, .int 0, .int 0, .int 0, .int 0, .int 0, .int 0, .int 0, .ref mna, .ref mpi, .ref mca, .ref mwa, .int 0, .ref mrd])), (mts, .inl (k_mts, 4, .inl f69)), (mtz, .inl (k_mtz, 4, .inl f76)), (mtn, .inl (k_mtn, 96, .inl vc))] [(k_mts, .int), (k_mtz, .int), (k_mtn, .int)] Hq Lq → lv_has lq 5 [(4, .int (nI i)), (0, .ref mo), (1, .int 2), (2, .int sort), (3, .int n)] → W p l e (headSpec wsX7_sheet { frames := 2, cells := 0, slots := 0, locals := 45 }).room s m (List.toArray [.ref mo, .int 2, .int sort, .int n]) below meth c Hq Lq 0 0 (MQ below (va_Qi (fun (r : Int32) (u : Unit) => r = sp_sheet 2 sort n) (fun u t => zz_B D A ((fun (u : Unit) => []) u) ((fun (u : Unit) => []) u) t) A) (List.toArray [.ref mo, .int 2, .int sort, .int n]) s 0 0 A) (F0 m 69 lq []) := by
              intro k
              induction k with
              | zero =>
                  intro i vc hik hinv H217 locs218 ls219 Z220 hl221
                  refine lv_iload hx hb dX7_sheet_69 (lv_at hl221 0 rfl) ?_
                  refine lv_bipush (v := 24) hx hb dX7_sheet_71 (by decide) ?_
                  refine lv_icmp_ge (tgt := 95) hx hb dX7_sheet_73 (by decide) (fun _ => ?_) (fun h => absurd (nI_le (a := 24) (b := i) (by omega) (by omega)) h)
                  refine lv_aload_n hx hb dX7_sheet_95 rfl (lv_at hl221 1 rfl) ?_
                  refine zz_get X Z220 0 rfl rfl (fun w h => List.mem_cons_of_mem _ (List.mem_append_right _ h)) 5 rfl (zz_m 5 rfl) rfl dX7_sheet_96 ?_
                  refine lv_iload_n hx hb dX7_sheet_99 rfl (lv_at hl221 2 rfl) ?_
                  refine zz_ild X Z220 2 1 rfl rfl (zz_in 2 4 rfl) dX7_sheet_100 ?_
                  refine zz_v (v := 0) (by rw [ef77]; rfl) ?_
                  exact zz_iret X hr hlk Z220 () (by simp [sp_sheet, w67, (zz_tm w67.1 b68)]) [] [] (by decide +kernel) rfl rfl dX7_sheet_101
              | succ k ih =>
                  intro i vc hik hinv H222 locs223 ls224 Z225 hl226
                  refine lv_iload hx hb dX7_sheet_69 (lv_at hl226 0 rfl) ?_
                  refine lv_bipush (v := 24) hx hb dX7_sheet_71 (by decide) ?_
                  refine lv_icmp_ge (tgt := 95) hx hb dX7_sheet_73 (by decide) (fun h => absurd h (nI_ge (a := i) (b := 24) (by omega) (by omega))) (fun _ => ?_)
                  refine lv_aload_n hx hb dX7_sheet_76 rfl (lv_at hl226 1 rfl) ?_
                  refine zz_get X Z225 0 rfl rfl (fun w h => List.mem_cons_of_mem _ (List.mem_append_right _ h)) 6 rfl (zz_m 6 rfl) rfl dX7_sheet_77 ?_
                  refine lv_bipush (v := 24) hx hb dX7_sheet_80 (by decide) ?_
                  refine lv_iload_n hx hb dX7_sheet_82 rfl (lv_at hl226 2 rfl) ?_
                  refine lv_imul hx hb dX7_sheet_83 ?_
                  refine zz_v (v := 48) (by decide) ?_
                  refine lv_iload hx hb dX7_sheet_84 (lv_at hl226 0 rfl) ?_
                  refine lv_iadd hx hb dX7_sheet_86 ?_
                  refine lv_iconst (v := 0) hx hb dX7_sheet_87 (by decide) ?_
                  refine zz_istN (WS' := fun f78 => [(mo, .inr (7, [.ref ms, .ref mi, .ref ma, .int 0, .ref mts, .ref mtz, .ref mtn, .ref mh, .ref mhn, .ref mhw, .ref mhz, .ref mhr, .ref mcl, .ref mtp, .int 0, .int 0, .int 0, .int 0, .int 0, .int 0, .int 0, .int 0, .int 0, .int 0, .int 0, .ref mna, .ref mpi, .ref mca, .ref mwa, .int 0, .ref mrd])), (mts, .inl (k_mts, 4, .inl f69)), (mtz, .inl (k_mtz, 4, .inl f76)), (mtn, .inl (k_mtn, 96, .inl f78))]) X Z225 3 2 rfl rfl (zz_inA 48 i 96 (by omega) (by omega)) dX7_sheet_88 (fun _ => rfl) (fun f78 ef79 H227 locs228 Z229 => ?_)
                  clear Z225
                  refine lv_iinc (v := nI (i + 1)) (lv' := [(4, .int (nI (i + 1))), (0, .ref mo), (1, .int 2), (2, .int sort), (3, .int n)]) hx hb dX7_sheet_89 hl226 (k := 0) rfl (nI_1 i) (by decide) rfl (fun ls230 hl231 => ?_)
                  clear hl226
                  refine lv_goto (tgt := 69) hx hb dX7_sheet_92 (by decide) ?_
                  exact ih (i + 1) f78 (by omega) trivial _ _ _ Z229 (lv_sub hl231 [0, 1, 2, 3, 4] rfl)
            exact loop 24 0 tnf (by omega) trivial _ _ _ Z214 hl216
        · refine lv_iload_n hx hb dX7_sheet_23 rfl (lv_at hl 3 rfl) ?_
          refine lv_bipush (v := 24) hx hb dX7_sheet_24 (by decide) ?_
          refine lv_icmp_le (tgt := 32) hx hb dX7_sheet_26 (by decide) (fun b80 => ?_) (fun b80 => ?_)
          · refine lv_iload_n hx hb dX7_sheet_32 rfl (lv_at hl 2 rfl) ?_
            refine lv_if_lt (tgt := 44) hx hb dX7_sheet_33 (by decide) (fun h => absurd h b68) (fun _ => ?_)
            refine lv_iload_n hx hb dX7_sheet_36 rfl (lv_at hl 3 rfl) ?_
            refine lv_if_ge (tgt := 44) hx hb dX7_sheet_37 (by decide) (fun b81 => ?_) (fun b81 => ?_)
            · refine lv_aload_n hx hb dX7_sheet_44 rfl (lv_at hl 0 rfl) ?_
              refine zz_get X Z188 0 rfl rfl (fun w h => List.mem_cons_of_mem _ (List.mem_append_right _ h)) 4 rfl (zz_m 4 rfl) rfl dX7_sheet_45 ?_
              refine lv_iload_n hx hb dX7_sheet_48 rfl (lv_at hl 1 rfl) ?_
              refine lv_iload_n hx hb dX7_sheet_49 rfl (lv_at hl 2 rfl) ?_
              refine zz_istN (WS' := fun f82 => [(mo, .inr (7, [.ref ms, .ref mi, .ref ma, .int 0, .ref mts, .ref mtz, .ref mtn, .ref mh, .ref mhn, .ref mhw, .ref mhz, .ref mhr, .ref mcl, .ref mtp, .int 0, .int 0, .int 0, .int 0, .int 0, .int 0, .int 0, .int 0, .int 0, .int 0, .int 0, .ref mna, .ref mpi, .ref mca, .ref mwa, .int 0, .ref mrd])), (mts, .inl (k_mts, 4, .inl f82)), (mtz, .inl (k_mtz, 4, .inl tzf)), (mtn, .inl (k_mtn, 96, .inl tnf))]) X Z188 1 0 rfl rfl (zz_in 2 4 rfl) dX7_sheet_50 (fun _ => rfl) (fun f82 ef83 H232 locs233 Z234 => ?_)
              clear Z188
              refine lv_aload_n hx hb dX7_sheet_51 rfl (lv_at hl 0 rfl) ?_
              refine zz_get X Z234 0 rfl rfl (fun w h => List.mem_cons_of_mem _ (List.mem_append_right _ h)) 5 rfl (zz_m 5 rfl) rfl dX7_sheet_52 ?_
              refine lv_iload_n hx hb dX7_sheet_55 rfl (lv_at hl 1 rfl) ?_
              refine lv_iload_n hx hb dX7_sheet_56 rfl (lv_at hl 2 rfl) ?_
              refine lv_if_ge (tgt := 64) hx hb dX7_sheet_57 (by decide) (fun b84 => ?_) (fun b84 => ?_)
              · refine lv_iload_n hx hb dX7_sheet_64 rfl (lv_at hl 3 rfl) ?_
                refine zz_istN (WS' := fun f85 => [(mo, .inr (7, [.ref ms, .ref mi, .ref ma, .int 0, .ref mts, .ref mtz, .ref mtn, .ref mh, .ref mhn, .ref mhw, .ref mhz, .ref mhr, .ref mcl, .ref mtp, .int 0, .int 0, .int 0, .int 0, .int 0, .int 0, .int 0, .int 0, .int 0, .int 0, .int 0, .ref mna, .ref mpi, .ref mca, .ref mwa, .int 0, .ref mrd])), (mts, .inl (k_mts, 4, .inl f82)), (mtz, .inl (k_mtz, 4, .inl f85)), (mtn, .inl (k_mtn, 96, .inl tnf))]) X Z234 2 1 rfl rfl (zz_in 2 4 rfl) dX7_sheet_65 (fun _ => rfl) (fun f85 ef86 H235 locs236 Z237 => ?_)
                clear Z234
                refine lv_iconst (v := 0) hx hb dX7_sheet_66 (by decide) ?_
                refine lv_istore (lv' := [(4, .int 0), (0, .ref mo), (1, .int 2), (2, .int sort), (3, .int n)]) hx hb dX7_sheet_67 hl (by decide) rfl (fun ls238 hl239 => ?_)
                clear hl
                have loop : ∀ (k i : Nat) (vc : (Nat → Int32)), i + k = 24 → (True) → ∀ (Hq : Heap) (Lq : List Loc) (lq : Array Slot), zz_S D A s [(mo, .inr (7, [.ref ms, .ref mi, .ref ma, .int 0, .ref mts, .ref mtz, .ref mtn, .ref mh, .ref mhn, .ref mhw, .ref mhz, .ref mhr, .ref mcl, .ref mtp, .int 0, .int 0, .int 0, .int 0, .int 0, .int 0, .int 0, .int 0, .int 0, .int 0, .int 0, .ref mna, .ref mpi, .ref mca, .ref mwa, .int 0, .ref mrd])), (mts, .inl (k_mts, 4, .inl f82)), (mtz, .inl (k_mtz, 4, .inl f85)), (mtn, .inl (k_mtn, 96, .inl vc))] [(k_mts, .int), (k_mtz, .int), (k_mtn, .int)] Hq Lq → lv_has lq 5 [(4, .int (nI i)), (0, .ref mo), (1, .int 2), (2, .int sort), (3, .int n)] → W p l e (headSpec wsX7_sheet { frames := 2, cells := 0, slots := 0, locals := 45 }).room s m (List.toArray [.ref mo, .int 2, .int sort, .int n]) below meth c Hq Lq 0 0 (MQ below (va_Qi (fun (r : Int32) (u : Unit) => r = sp_sheet 2 sort n) (fun u t => zz_B D A ((fun (u : Unit) => []) u) ((fun (u : Unit) => []) u) t) A) (List.toArray [.ref mo, .int 2, .int sort, .int n]) s 0 0 A) (F0 m 69 lq []) := by
                  intro k
                  induction k with
                  | zero =>
                      intro i vc hik hinv H240 locs241 ls242 Z243 hl244
                      refine lv_iload hx hb dX7_sheet_69 (lv_at hl244 0 rfl) ?_
                      refine lv_bipush (v := 24) hx hb dX7_sheet_71 (by decide) ?_
                      refine lv_icmp_ge (tgt := 95) hx hb dX7_sheet_73 (by decide) (fun _ => ?_) (fun h => absurd (nI_le (a := 24) (b := i) (by omega) (by omega)) h)
                      refine lv_aload_n hx hb dX7_sheet_95 rfl (lv_at hl244 1 rfl) ?_
                      refine zz_get X Z243 0 rfl rfl (fun w h => List.mem_cons_of_mem _ (List.mem_append_right _ h)) 5 rfl (zz_m 5 rfl) rfl dX7_sheet_96 ?_
                      refine lv_iload_n hx hb dX7_sheet_99 rfl (lv_at hl244 2 rfl) ?_
                      refine zz_ild X Z243 2 1 rfl rfl (zz_in 2 4 rfl) dX7_sheet_100 ?_
                      refine zz_v (v := n) (by rw [ef86]; rfl) ?_
                      exact zz_iret X hr hlk Z243 () (by simp [sp_sheet, w67, (zz_tn b68), (Int32.not_lt.mpr b80), (Int32.not_lt.mpr b81)]) [] [] (by decide +kernel) rfl rfl dX7_sheet_101
                  | succ k ih =>
                      intro i vc hik hinv H245 locs246 ls247 Z248 hl249
                      refine lv_iload hx hb dX7_sheet_69 (lv_at hl249 0 rfl) ?_
                      refine lv_bipush (v := 24) hx hb dX7_sheet_71 (by decide) ?_
                      refine lv_icmp_ge (tgt := 95) hx hb dX7_sheet_73 (by decide) (fun h => absurd h (nI_ge (a := i) (b := 24) (by omega) (by omega))) (fun _ => ?_)
                      refine lv_aload_n hx hb dX7_sheet_76 rfl (lv_at hl249 1 rfl) ?_
                      refine zz_get X Z248 0 rfl rfl (fun w h => List.mem_cons_of_mem _ (List.mem_append_right _ h)) 6 rfl (zz_m 6 rfl) rfl dX7_sheet_77 ?_
                      refine lv_bipush (v := 24) hx hb dX7_sheet_80 (by decide) ?_
                      refine lv_iload_n hx hb dX7_sheet_82 rfl (lv_at hl249 2 rfl) ?_
                      refine lv_imul hx hb dX7_sheet_83 ?_
                      refine zz_v (v := 48) (by decide) ?_
                      refine lv_iload hx hb dX7_sheet_84 (lv_at hl249 0 rfl) ?_
                      refine lv_iadd hx hb dX7_sheet_86 ?_
                      refine lv_iconst (v := 0) hx hb dX7_sheet_87 (by decide) ?_
                      refine zz_istN (WS' := fun f87 => [(mo, .inr (7, [.ref ms, .ref mi, .ref ma, .int 0, .ref mts, .ref mtz, .ref mtn, .ref mh, .ref mhn, .ref mhw, .ref mhz, .ref mhr, .ref mcl, .ref mtp, .int 0, .int 0, .int 0, .int 0, .int 0, .int 0, .int 0, .int 0, .int 0, .int 0, .int 0, .ref mna, .ref mpi, .ref mca, .ref mwa, .int 0, .ref mrd])), (mts, .inl (k_mts, 4, .inl f82)), (mtz, .inl (k_mtz, 4, .inl f85)), (mtn, .inl (k_mtn, 96, .inl f87))]) X Z248 3 2 rfl rfl (zz_inA 48 i 96 (by omega) (by omega)) dX7_sheet_88 (fun _ => rfl) (fun f87 ef88 H250 locs251 Z252 => ?_)
                      clear Z248
                      refine lv_iinc (v := nI (i + 1)) (lv' := [(4, .int (nI (i + 1))), (0, .ref mo), (1, .int 2), (2, .int sort), (3, .int n)]) hx hb dX7_sheet_89 hl249 (k := 0) rfl (nI_1 i) (by decide) rfl (fun ls253 hl254 => ?_)
                      clear hl249
                      refine lv_goto (tgt := 69) hx hb dX7_sheet_92 (by decide) ?_
                      exact ih (i + 1) f87 (by omega) trivial _ _ _ Z252 (lv_sub hl254 [0, 1, 2, 3, 4] rfl)
                exact loop 24 0 tnf (by omega) trivial _ _ _ Z237 hl239
              · refine lv_iconst (v := 0) hx hb dX7_sheet_60 (by decide) ?_
                refine lv_goto (tgt := 65) hx hb dX7_sheet_61 (by decide) ?_
                refine zz_istN (WS' := fun f89 => [(mo, .inr (7, [.ref ms, .ref mi, .ref ma, .int 0, .ref mts, .ref mtz, .ref mtn, .ref mh, .ref mhn, .ref mhw, .ref mhz, .ref mhr, .ref mcl, .ref mtp, .int 0, .int 0, .int 0, .int 0, .int 0, .int 0, .int 0, .int 0, .int 0, .int 0, .int 0, .ref mna, .ref mpi, .ref mca, .ref mwa, .int 0, .ref mrd])), (mts, .inl (k_mts, 4, .inl f82)), (mtz, .inl (k_mtz, 4, .inl f89)), (mtn, .inl (k_mtn, 96, .inl tnf))]) X Z234 2 1 rfl rfl (zz_in 2 4 rfl) dX7_sheet_65 (fun _ => rfl) (fun f89 ef90 H255 locs256 Z257 => ?_)
                clear Z234
                refine lv_iconst (v := 0) hx hb dX7_sheet_66 (by decide) ?_
                refine lv_istore (lv' := [(4, .int 0), (0, .ref mo), (1, .int 2), (2, .int sort), (3, .int n)]) hx hb dX7_sheet_67 hl (by decide) rfl (fun ls258 hl259 => ?_)
                clear hl
                have loop : ∀ (k i : Nat) (vc : (Nat → Int32)), i + k = 24 → (True) → ∀ (Hq : Heap) (Lq : List Loc) (lq : Array Slot), zz_S D A s [(mo, .inr (7, [.ref ms, .ref mi, .ref ma, .int 0, .ref mts, .ref mtz, .ref mtn, .ref mh, .ref mhn, .ref mhw, .ref mhz, .ref mhr, .ref mcl, .ref mtp, .int 0, .int 0, .int 0, .int 0, .int 0, .int 0, .int 0, .int 0, .int 0, .int 0, .int 0, .ref mna, .ref mpi, .ref mca, .ref mwa, .int 0, .ref mrd])), (mts, .inl (k_mts, 4, .inl f82)), (mtz, .inl (k_mtz, 4, .inl f89)), (mtn, .inl (k_mtn, 96, .inl vc))] [(k_mts, .int), (k_mtz, .int), (k_mtn, .int)] Hq Lq → lv_has lq 5 [(4, .int (nI i)), (0, .ref mo), (1, .int 2), (2, .int sort), (3, .int n)] → W p l e (headSpec wsX7_sheet { frames := 2, cells := 0, slots := 0, locals := 45 }).room s m (List.toArray [.ref mo, .int 2, .int sort, .int n]) below meth c Hq Lq 0 0 (MQ below (va_Qi (fun (r : Int32) (u : Unit) => r = sp_sheet 2 sort n) (fun u t => zz_B D A ((fun (u : Unit) => []) u) ((fun (u : Unit) => []) u) t) A) (List.toArray [.ref mo, .int 2, .int sort, .int n]) s 0 0 A) (F0 m 69 lq []) := by
                  intro k
                  induction k with
                  | zero =>
                      intro i vc hik hinv H260 locs261 ls262 Z263 hl264
                      refine lv_iload hx hb dX7_sheet_69 (lv_at hl264 0 rfl) ?_
                      refine lv_bipush (v := 24) hx hb dX7_sheet_71 (by decide) ?_
                      refine lv_icmp_ge (tgt := 95) hx hb dX7_sheet_73 (by decide) (fun _ => ?_) (fun h => absurd (nI_le (a := 24) (b := i) (by omega) (by omega)) h)
                      refine lv_aload_n hx hb dX7_sheet_95 rfl (lv_at hl264 1 rfl) ?_
                      refine zz_get X Z263 0 rfl rfl (fun w h => List.mem_cons_of_mem _ (List.mem_append_right _ h)) 5 rfl (zz_m 5 rfl) rfl dX7_sheet_96 ?_
                      refine lv_iload_n hx hb dX7_sheet_99 rfl (lv_at hl264 2 rfl) ?_
                      refine zz_ild X Z263 2 1 rfl rfl (zz_in 2 4 rfl) dX7_sheet_100 ?_
                      refine zz_v (v := 0) (by rw [ef90]; rfl) ?_
                      exact zz_iret X hr hlk Z263 () (by simp [sp_sheet, w67, (zz_tn b68), (Int32.not_lt.mpr b80), (Int32.not_lt.mpr b81)]) [] [] (by decide +kernel) rfl rfl dX7_sheet_101
                  | succ k ih =>
                      intro i vc hik hinv H265 locs266 ls267 Z268 hl269
                      refine lv_iload hx hb dX7_sheet_69 (lv_at hl269 0 rfl) ?_
                      refine lv_bipush (v := 24) hx hb dX7_sheet_71 (by decide) ?_
                      refine lv_icmp_ge (tgt := 95) hx hb dX7_sheet_73 (by decide) (fun h => absurd h (nI_ge (a := i) (b := 24) (by omega) (by omega))) (fun _ => ?_)
                      refine lv_aload_n hx hb dX7_sheet_76 rfl (lv_at hl269 1 rfl) ?_
                      refine zz_get X Z268 0 rfl rfl (fun w h => List.mem_cons_of_mem _ (List.mem_append_right _ h)) 6 rfl (zz_m 6 rfl) rfl dX7_sheet_77 ?_
                      refine lv_bipush (v := 24) hx hb dX7_sheet_80 (by decide) ?_
                      refine lv_iload_n hx hb dX7_sheet_82 rfl (lv_at hl269 2 rfl) ?_
                      refine lv_imul hx hb dX7_sheet_83 ?_
                      refine zz_v (v := 48) (by decide) ?_
                      refine lv_iload hx hb dX7_sheet_84 (lv_at hl269 0 rfl) ?_
                      refine lv_iadd hx hb dX7_sheet_86 ?_
                      refine lv_iconst (v := 0) hx hb dX7_sheet_87 (by decide) ?_
                      refine zz_istN (WS' := fun f91 => [(mo, .inr (7, [.ref ms, .ref mi, .ref ma, .int 0, .ref mts, .ref mtz, .ref mtn, .ref mh, .ref mhn, .ref mhw, .ref mhz, .ref mhr, .ref mcl, .ref mtp, .int 0, .int 0, .int 0, .int 0, .int 0, .int 0, .int 0, .int 0, .int 0, .int 0, .int 0, .ref mna, .ref mpi, .ref mca, .ref mwa, .int 0, .ref mrd])), (mts, .inl (k_mts, 4, .inl f82)), (mtz, .inl (k_mtz, 4, .inl f89)), (mtn, .inl (k_mtn, 96, .inl f91))]) X Z268 3 2 rfl rfl (zz_inA 48 i 96 (by omega) (by omega)) dX7_sheet_88 (fun _ => rfl) (fun f91 ef92 H270 locs271 Z272 => ?_)
                      clear Z268
                      refine lv_iinc (v := nI (i + 1)) (lv' := [(4, .int (nI (i + 1))), (0, .ref mo), (1, .int 2), (2, .int sort), (3, .int n)]) hx hb dX7_sheet_89 hl269 (k := 0) rfl (nI_1 i) (by decide) rfl (fun ls273 hl274 => ?_)
                      clear hl269
                      refine lv_goto (tgt := 69) hx hb dX7_sheet_92 (by decide) ?_
                      exact ih (i + 1) f91 (by omega) trivial _ _ _ Z272 (lv_sub hl274 [0, 1, 2, 3, 4] rfl)
                exact loop 24 0 tnf (by omega) trivial _ _ _ Z257 hl259
            · refine lv_ldcw (v := (-1000000014)) hx hb hown (hts _ (zz_m 3 rfl)) dX7_sheet_40 ?_
              exact zz_iret X hr hlk Z188 () (by simp [sp_sheet, w67, (zz_tn b68), (Int32.not_lt.mpr b80), (Int32.not_le.mp b81)]) [] [] (by decide +kernel) rfl rfl dX7_sheet_43
          · refine lv_ldc (v := (-1000000001)) hx hb hown (hts _ (zz_m 2 rfl)) dX7_sheet_29 ?_
            exact zz_iret X hr hlk Z188 () (by simp [sp_sheet, w67, (zz_tn b68), (Int32.not_le.mp b80)]) [] [] (by decide +kernel) rfl rfl dX7_sheet_31
      · refine zz_v (v := 0) (zz_wiF w67) ?_
        refine lv_if_eq (tgt := 29) hx hb dX7_sheet_16 (by decide) (fun _ => ?_) (fun h => absurd (by decide) h)
        refine lv_ldc (v := (-1000000001)) hx hb hown (hts _ (zz_m 2 rfl)) dX7_sheet_29 ?_
        exact zz_iret X hr hlk Z188 () (by simp [sp_sheet, w67]) [] [] (by decide +kernel) rfl rfl dX7_sheet_31
    · have e5 : sheet = 3 := e5
      subst e5
      refine zz_v (v := 1) (by decide) ?_
      refine lv_if_eq (tgt := 29) hx hb dX7_sheet_4 (by decide) (fun h => absurd h (by decide)) (fun _ => ?_)
      refine lv_iload_n hx hb dX7_sheet_7 rfl (lv_at hl 2 rfl) ?_
      refine lv_i2l (v := Int32.toInt64 sort) hx hb dX7_sheet_8 rfl ?_
      refine lv_ldc2 (v := (-1)) hx hb hown (hts _ (zz_m 1 rfl)) dX7_sheet_9 ?_
      refine zz_vl (v := Int32.toInt64 (-1)) (by decide) ?_
      refine lv_lconst (v := 1) hx hb dX7_sheet_12 (by decide) ?_
      refine zz_vl (v := Int32.toInt64 1) (by decide) ?_
      refine zz_ci (WC := []) (TC := []) (WR := [(mo, .inr (7, [.ref ms, .ref mi, .ref ma, .int 0, .ref mts, .ref mtz, .ref mtn, .ref mh, .ref mhn, .ref mhw, .ref mhz, .ref mhr, .ref mcl, .ref mtp, .int 0, .int 0, .int 0, .int 0, .int 0, .int 0, .int 0, .int 0, .int 0, .int 0, .int 0, .ref mna, .ref mpi, .ref mca, .ref mwa, .int 0, .ref mrd])), (mts, .inl (k_mts, 4, .inl tsf)), (mtz, .inl (k_mtz, 4, .inl tzf)), (mtn, .inl (k_mtn, 96, .inl tnf))]) (TR := [(k_mts, .int), (k_mtz, .int), (k_mtn, .int)]) (k := 0) (n := 0) Z4 [] [0, 1, 2, 3] [] [0, 1, 2] rfl rfl (by decide +kernel) (by decide +kernel) (by decide +kernel) rfl rfl (fun Zc => va_runS (As := [.long (Int32.toInt64 sort), .long (Int32.toInt64 (-1)), .long (Int32.toInt64 1)]) (rest := []) X (c_isIn l D sort (-1) 1 H1.size) (va_cwS 3 hts gX7_sheet_X7_isIn rfl rfl rfl zh_X7_isIn ⟨Nat.le_of_ble_eq_true rfl, Nat.le_of_ble_eq_true rfl⟩) (zz_pS Zc) rfl rfl hl.1 rfl (lv_room (Nat.le_of_ble_eq_true rfl)) dX7_sheet_13 ⟨Nat.le_of_ble_eq_true rfl, Nat.le_of_ble_eq_true rfl⟩) rfl rfl (fun r95 u93 H275 locs276 hw94 Z277 => ?_)
      clear Z4
      subst r95
      have Z278 : zz_S D A s [(mo, .inr (7, [.ref ms, .ref mi, .ref ma, .int 0, .ref mts, .ref mtz, .ref mtn, .ref mh, .ref mhn, .ref mhw, .ref mhz, .ref mhr, .ref mcl, .ref mtp, .int 0, .int 0, .int 0, .int 0, .int 0, .int 0, .int 0, .int 0, .int 0, .int 0, .int 0, .ref mna, .ref mpi, .ref mca, .ref mwa, .int 0, .ref mrd])), (mts, .inl (k_mts, 4, .inl tsf)), (mtz, .inl (k_mtz, 4, .inl tzf)), (mtn, .inl (k_mtn, 96, .inl tnf))] [(k_mts, .int), (k_mtz, .int), (k_mtn, .int)] H275 locs276 := Z277
      clear Z277
      by_cases w96 : (-1) ≤ sort ∧ sort ≤ 1
      · refine zz_v (v := 1) (zz_wiT w96) ?_
        refine lv_if_eq (tgt := 29) hx hb dX7_sheet_16 (by decide) (fun h => absurd h (by decide)) (fun _ => ?_)
        refine lv_iload_n hx hb dX7_sheet_19 rfl (lv_at hl 2 rfl) ?_
        refine lv_if_lt (tgt := 32) hx hb dX7_sheet_20 (by decide) (fun b97 => ?_) (fun b97 => ?_)
        · refine lv_iload_n hx hb dX7_sheet_32 rfl (lv_at hl 2 rfl) ?_
          refine lv_if_lt (tgt := 44) hx hb dX7_sheet_33 (by decide) (fun _ => ?_) (fun h => absurd b97 h)
          refine lv_aload_n hx hb dX7_sheet_44 rfl (lv_at hl 0 rfl) ?_
          refine zz_get X Z278 0 rfl rfl (fun w h => List.mem_cons_of_mem _ (List.mem_append_right _ h)) 4 rfl (zz_m 4 rfl) rfl dX7_sheet_45 ?_
          refine lv_iload_n hx hb dX7_sheet_48 rfl (lv_at hl 1 rfl) ?_
          refine lv_iload_n hx hb dX7_sheet_49 rfl (lv_at hl 2 rfl) ?_
          refine zz_istN (WS' := fun f98 => [(mo, .inr (7, [.ref ms, .ref mi, .ref ma, .int 0, .ref mts, .ref mtz, .ref mtn, .ref mh, .ref mhn, .ref mhw, .ref mhz, .ref mhr, .ref mcl, .ref mtp, .int 0, .int 0, .int 0, .int 0, .int 0, .int 0, .int 0, .int 0, .int 0, .int 0, .int 0, .ref mna, .ref mpi, .ref mca, .ref mwa, .int 0, .ref mrd])), (mts, .inl (k_mts, 4, .inl f98)), (mtz, .inl (k_mtz, 4, .inl tzf)), (mtn, .inl (k_mtn, 96, .inl tnf))]) X Z278 1 0 rfl rfl (zz_in 3 4 rfl) dX7_sheet_50 (fun _ => rfl) (fun f98 ef99 H279 locs280 Z281 => ?_)
          clear Z278
          refine lv_aload_n hx hb dX7_sheet_51 rfl (lv_at hl 0 rfl) ?_
          refine zz_get X Z281 0 rfl rfl (fun w h => List.mem_cons_of_mem _ (List.mem_append_right _ h)) 5 rfl (zz_m 5 rfl) rfl dX7_sheet_52 ?_
          refine lv_iload_n hx hb dX7_sheet_55 rfl (lv_at hl 1 rfl) ?_
          refine lv_iload_n hx hb dX7_sheet_56 rfl (lv_at hl 2 rfl) ?_
          refine lv_if_ge (tgt := 64) hx hb dX7_sheet_57 (by decide) (fun b100 => ?_) (fun b100 => ?_)
          · refine lv_iload_n hx hb dX7_sheet_64 rfl (lv_at hl 3 rfl) ?_
            refine zz_istN (WS' := fun f101 => [(mo, .inr (7, [.ref ms, .ref mi, .ref ma, .int 0, .ref mts, .ref mtz, .ref mtn, .ref mh, .ref mhn, .ref mhw, .ref mhz, .ref mhr, .ref mcl, .ref mtp, .int 0, .int 0, .int 0, .int 0, .int 0, .int 0, .int 0, .int 0, .int 0, .int 0, .int 0, .ref mna, .ref mpi, .ref mca, .ref mwa, .int 0, .ref mrd])), (mts, .inl (k_mts, 4, .inl f98)), (mtz, .inl (k_mtz, 4, .inl f101)), (mtn, .inl (k_mtn, 96, .inl tnf))]) X Z281 2 1 rfl rfl (zz_in 3 4 rfl) dX7_sheet_65 (fun _ => rfl) (fun f101 ef102 H282 locs283 Z284 => ?_)
            clear Z281
            refine lv_iconst (v := 0) hx hb dX7_sheet_66 (by decide) ?_
            refine lv_istore (lv' := [(4, .int 0), (0, .ref mo), (1, .int 3), (2, .int sort), (3, .int n)]) hx hb dX7_sheet_67 hl (by decide) rfl (fun ls285 hl286 => ?_)
            clear hl
            have loop : ∀ (k i : Nat) (vc : (Nat → Int32)), i + k = 24 → (True) → ∀ (Hq : Heap) (Lq : List Loc) (lq : Array Slot), zz_S D A s [(mo, .inr (7, [.ref ms, .ref mi, .ref ma, .int 0, .ref mts, .ref mtz, .ref mtn, .ref mh, .ref mhn, .ref mhw, .ref mhz, .ref mhr, .ref mcl, .ref mtp, .int 0, .int 0, .int 0, .int 0, .int 0, .int 0, .int 0, .int 0, .int 0, .int 0, .int 0, .ref mna, .ref mpi, .ref mca, .ref mwa, .int 0, .ref mrd])), (mts, .inl (k_mts, 4, .inl f98)), (mtz, .inl (k_mtz, 4, .inl f101)), (mtn, .inl (k_mtn, 96, .inl vc))] [(k_mts, .int), (k_mtz, .int), (k_mtn, .int)] Hq Lq → lv_has lq 5 [(4, .int (nI i)), (0, .ref mo), (1, .int 3), (2, .int sort), (3, .int n)] → W p l e (headSpec wsX7_sheet { frames := 2, cells := 0, slots := 0, locals := 45 }).room s m (List.toArray [.ref mo, .int 3, .int sort, .int n]) below meth c Hq Lq 0 0 (MQ below (va_Qi (fun (r : Int32) (u : Unit) => r = sp_sheet 3 sort n) (fun u t => zz_B D A ((fun (u : Unit) => []) u) ((fun (u : Unit) => []) u) t) A) (List.toArray [.ref mo, .int 3, .int sort, .int n]) s 0 0 A) (F0 m 69 lq []) := by
              intro k
              induction k with
              | zero =>
                  intro i vc hik hinv H287 locs288 ls289 Z290 hl291
                  refine lv_iload hx hb dX7_sheet_69 (lv_at hl291 0 rfl) ?_
                  refine lv_bipush (v := 24) hx hb dX7_sheet_71 (by decide) ?_
                  refine lv_icmp_ge (tgt := 95) hx hb dX7_sheet_73 (by decide) (fun _ => ?_) (fun h => absurd (nI_le (a := 24) (b := i) (by omega) (by omega)) h)
                  refine lv_aload_n hx hb dX7_sheet_95 rfl (lv_at hl291 1 rfl) ?_
                  refine zz_get X Z290 0 rfl rfl (fun w h => List.mem_cons_of_mem _ (List.mem_append_right _ h)) 5 rfl (zz_m 5 rfl) rfl dX7_sheet_96 ?_
                  refine lv_iload_n hx hb dX7_sheet_99 rfl (lv_at hl291 2 rfl) ?_
                  refine zz_ild X Z290 2 1 rfl rfl (zz_in 3 4 rfl) dX7_sheet_100 ?_
                  refine zz_v (v := n) (by rw [ef102]; rfl) ?_
                  exact zz_iret X hr hlk Z290 () (by simp [sp_sheet, w96, (zz_tm w96.1 b97)]) [] [] (by decide +kernel) rfl rfl dX7_sheet_101
              | succ k ih =>
                  intro i vc hik hinv H292 locs293 ls294 Z295 hl296
                  refine lv_iload hx hb dX7_sheet_69 (lv_at hl296 0 rfl) ?_
                  refine lv_bipush (v := 24) hx hb dX7_sheet_71 (by decide) ?_
                  refine lv_icmp_ge (tgt := 95) hx hb dX7_sheet_73 (by decide) (fun h => absurd h (nI_ge (a := i) (b := 24) (by omega) (by omega))) (fun _ => ?_)
                  refine lv_aload_n hx hb dX7_sheet_76 rfl (lv_at hl296 1 rfl) ?_
                  refine zz_get X Z295 0 rfl rfl (fun w h => List.mem_cons_of_mem _ (List.mem_append_right _ h)) 6 rfl (zz_m 6 rfl) rfl dX7_sheet_77 ?_
                  refine lv_bipush (v := 24) hx hb dX7_sheet_80 (by decide) ?_
                  refine lv_iload_n hx hb dX7_sheet_82 rfl (lv_at hl296 2 rfl) ?_
                  refine lv_imul hx hb dX7_sheet_83 ?_
                  refine zz_v (v := 72) (by decide) ?_
                  refine lv_iload hx hb dX7_sheet_84 (lv_at hl296 0 rfl) ?_
                  refine lv_iadd hx hb dX7_sheet_86 ?_
                  refine lv_iconst (v := 0) hx hb dX7_sheet_87 (by decide) ?_
                  refine zz_istN (WS' := fun f103 => [(mo, .inr (7, [.ref ms, .ref mi, .ref ma, .int 0, .ref mts, .ref mtz, .ref mtn, .ref mh, .ref mhn, .ref mhw, .ref mhz, .ref mhr, .ref mcl, .ref mtp, .int 0, .int 0, .int 0, .int 0, .int 0, .int 0, .int 0, .int 0, .int 0, .int 0, .int 0, .ref mna, .ref mpi, .ref mca, .ref mwa, .int 0, .ref mrd])), (mts, .inl (k_mts, 4, .inl f98)), (mtz, .inl (k_mtz, 4, .inl f101)), (mtn, .inl (k_mtn, 96, .inl f103))]) X Z295 3 2 rfl rfl (zz_inA 72 i 96 (by omega) (by omega)) dX7_sheet_88 (fun _ => rfl) (fun f103 ef104 H297 locs298 Z299 => ?_)
                  clear Z295
                  refine lv_iinc (v := nI (i + 1)) (lv' := [(4, .int (nI (i + 1))), (0, .ref mo), (1, .int 3), (2, .int sort), (3, .int n)]) hx hb dX7_sheet_89 hl296 (k := 0) rfl (nI_1 i) (by decide) rfl (fun ls300 hl301 => ?_)
                  clear hl296
                  refine lv_goto (tgt := 69) hx hb dX7_sheet_92 (by decide) ?_
                  exact ih (i + 1) f103 (by omega) trivial _ _ _ Z299 (lv_sub hl301 [0, 1, 2, 3, 4] rfl)
            exact loop 24 0 tnf (by omega) trivial _ _ _ Z284 hl286
          · refine lv_iconst (v := 0) hx hb dX7_sheet_60 (by decide) ?_
            refine lv_goto (tgt := 65) hx hb dX7_sheet_61 (by decide) ?_
            refine zz_istN (WS' := fun f105 => [(mo, .inr (7, [.ref ms, .ref mi, .ref ma, .int 0, .ref mts, .ref mtz, .ref mtn, .ref mh, .ref mhn, .ref mhw, .ref mhz, .ref mhr, .ref mcl, .ref mtp, .int 0, .int 0, .int 0, .int 0, .int 0, .int 0, .int 0, .int 0, .int 0, .int 0, .int 0, .ref mna, .ref mpi, .ref mca, .ref mwa, .int 0, .ref mrd])), (mts, .inl (k_mts, 4, .inl f98)), (mtz, .inl (k_mtz, 4, .inl f105)), (mtn, .inl (k_mtn, 96, .inl tnf))]) X Z281 2 1 rfl rfl (zz_in 3 4 rfl) dX7_sheet_65 (fun _ => rfl) (fun f105 ef106 H302 locs303 Z304 => ?_)
            clear Z281
            refine lv_iconst (v := 0) hx hb dX7_sheet_66 (by decide) ?_
            refine lv_istore (lv' := [(4, .int 0), (0, .ref mo), (1, .int 3), (2, .int sort), (3, .int n)]) hx hb dX7_sheet_67 hl (by decide) rfl (fun ls305 hl306 => ?_)
            clear hl
            have loop : ∀ (k i : Nat) (vc : (Nat → Int32)), i + k = 24 → (True) → ∀ (Hq : Heap) (Lq : List Loc) (lq : Array Slot), zz_S D A s [(mo, .inr (7, [.ref ms, .ref mi, .ref ma, .int 0, .ref mts, .ref mtz, .ref mtn, .ref mh, .ref mhn, .ref mhw, .ref mhz, .ref mhr, .ref mcl, .ref mtp, .int 0, .int 0, .int 0, .int 0, .int 0, .int 0, .int 0, .int 0, .int 0, .int 0, .int 0, .ref mna, .ref mpi, .ref mca, .ref mwa, .int 0, .ref mrd])), (mts, .inl (k_mts, 4, .inl f98)), (mtz, .inl (k_mtz, 4, .inl f105)), (mtn, .inl (k_mtn, 96, .inl vc))] [(k_mts, .int), (k_mtz, .int), (k_mtn, .int)] Hq Lq → lv_has lq 5 [(4, .int (nI i)), (0, .ref mo), (1, .int 3), (2, .int sort), (3, .int n)] → W p l e (headSpec wsX7_sheet { frames := 2, cells := 0, slots := 0, locals := 45 }).room s m (List.toArray [.ref mo, .int 3, .int sort, .int n]) below meth c Hq Lq 0 0 (MQ below (va_Qi (fun (r : Int32) (u : Unit) => r = sp_sheet 3 sort n) (fun u t => zz_B D A ((fun (u : Unit) => []) u) ((fun (u : Unit) => []) u) t) A) (List.toArray [.ref mo, .int 3, .int sort, .int n]) s 0 0 A) (F0 m 69 lq []) := by
              intro k
              induction k with
              | zero =>
                  intro i vc hik hinv H307 locs308 ls309 Z310 hl311
                  refine lv_iload hx hb dX7_sheet_69 (lv_at hl311 0 rfl) ?_
                  refine lv_bipush (v := 24) hx hb dX7_sheet_71 (by decide) ?_
                  refine lv_icmp_ge (tgt := 95) hx hb dX7_sheet_73 (by decide) (fun _ => ?_) (fun h => absurd (nI_le (a := 24) (b := i) (by omega) (by omega)) h)
                  refine lv_aload_n hx hb dX7_sheet_95 rfl (lv_at hl311 1 rfl) ?_
                  refine zz_get X Z310 0 rfl rfl (fun w h => List.mem_cons_of_mem _ (List.mem_append_right _ h)) 5 rfl (zz_m 5 rfl) rfl dX7_sheet_96 ?_
                  refine lv_iload_n hx hb dX7_sheet_99 rfl (lv_at hl311 2 rfl) ?_
                  refine zz_ild X Z310 2 1 rfl rfl (zz_in 3 4 rfl) dX7_sheet_100 ?_
                  refine zz_v (v := 0) (by rw [ef106]; rfl) ?_
                  exact zz_iret X hr hlk Z310 () (by simp [sp_sheet, w96, (zz_tm w96.1 b97)]) [] [] (by decide +kernel) rfl rfl dX7_sheet_101
              | succ k ih =>
                  intro i vc hik hinv H312 locs313 ls314 Z315 hl316
                  refine lv_iload hx hb dX7_sheet_69 (lv_at hl316 0 rfl) ?_
                  refine lv_bipush (v := 24) hx hb dX7_sheet_71 (by decide) ?_
                  refine lv_icmp_ge (tgt := 95) hx hb dX7_sheet_73 (by decide) (fun h => absurd h (nI_ge (a := i) (b := 24) (by omega) (by omega))) (fun _ => ?_)
                  refine lv_aload_n hx hb dX7_sheet_76 rfl (lv_at hl316 1 rfl) ?_
                  refine zz_get X Z315 0 rfl rfl (fun w h => List.mem_cons_of_mem _ (List.mem_append_right _ h)) 6 rfl (zz_m 6 rfl) rfl dX7_sheet_77 ?_
                  refine lv_bipush (v := 24) hx hb dX7_sheet_80 (by decide) ?_
                  refine lv_iload_n hx hb dX7_sheet_82 rfl (lv_at hl316 2 rfl) ?_
                  refine lv_imul hx hb dX7_sheet_83 ?_
                  refine zz_v (v := 72) (by decide) ?_
                  refine lv_iload hx hb dX7_sheet_84 (lv_at hl316 0 rfl) ?_
                  refine lv_iadd hx hb dX7_sheet_86 ?_
                  refine lv_iconst (v := 0) hx hb dX7_sheet_87 (by decide) ?_
                  refine zz_istN (WS' := fun f107 => [(mo, .inr (7, [.ref ms, .ref mi, .ref ma, .int 0, .ref mts, .ref mtz, .ref mtn, .ref mh, .ref mhn, .ref mhw, .ref mhz, .ref mhr, .ref mcl, .ref mtp, .int 0, .int 0, .int 0, .int 0, .int 0, .int 0, .int 0, .int 0, .int 0, .int 0, .int 0, .ref mna, .ref mpi, .ref mca, .ref mwa, .int 0, .ref mrd])), (mts, .inl (k_mts, 4, .inl f98)), (mtz, .inl (k_mtz, 4, .inl f105)), (mtn, .inl (k_mtn, 96, .inl f107))]) X Z315 3 2 rfl rfl (zz_inA 72 i 96 (by omega) (by omega)) dX7_sheet_88 (fun _ => rfl) (fun f107 ef108 H317 locs318 Z319 => ?_)
                  clear Z315
                  refine lv_iinc (v := nI (i + 1)) (lv' := [(4, .int (nI (i + 1))), (0, .ref mo), (1, .int 3), (2, .int sort), (3, .int n)]) hx hb dX7_sheet_89 hl316 (k := 0) rfl (nI_1 i) (by decide) rfl (fun ls320 hl321 => ?_)
                  clear hl316
                  refine lv_goto (tgt := 69) hx hb dX7_sheet_92 (by decide) ?_
                  exact ih (i + 1) f107 (by omega) trivial _ _ _ Z319 (lv_sub hl321 [0, 1, 2, 3, 4] rfl)
            exact loop 24 0 tnf (by omega) trivial _ _ _ Z304 hl306
        · refine lv_iload_n hx hb dX7_sheet_23 rfl (lv_at hl 3 rfl) ?_
          refine lv_bipush (v := 24) hx hb dX7_sheet_24 (by decide) ?_
          refine lv_icmp_le (tgt := 32) hx hb dX7_sheet_26 (by decide) (fun b109 => ?_) (fun b109 => ?_)
          · refine lv_iload_n hx hb dX7_sheet_32 rfl (lv_at hl 2 rfl) ?_
            refine lv_if_lt (tgt := 44) hx hb dX7_sheet_33 (by decide) (fun h => absurd h b97) (fun _ => ?_)
            refine lv_iload_n hx hb dX7_sheet_36 rfl (lv_at hl 3 rfl) ?_
            refine lv_if_ge (tgt := 44) hx hb dX7_sheet_37 (by decide) (fun b110 => ?_) (fun b110 => ?_)
            · refine lv_aload_n hx hb dX7_sheet_44 rfl (lv_at hl 0 rfl) ?_
              refine zz_get X Z278 0 rfl rfl (fun w h => List.mem_cons_of_mem _ (List.mem_append_right _ h)) 4 rfl (zz_m 4 rfl) rfl dX7_sheet_45 ?_
              refine lv_iload_n hx hb dX7_sheet_48 rfl (lv_at hl 1 rfl) ?_
              refine lv_iload_n hx hb dX7_sheet_49 rfl (lv_at hl 2 rfl) ?_
              refine zz_istN (WS' := fun f111 => [(mo, .inr (7, [.ref ms, .ref mi, .ref ma, .int 0, .ref mts, .ref mtz, .ref mtn, .ref mh, .ref mhn, .ref mhw, .ref mhz, .ref mhr, .ref mcl, .ref mtp, .int 0, .int 0, .int 0, .int 0, .int 0, .int 0, .int 0, .int 0, .int 0, .int 0, .int 0, .ref mna, .ref mpi, .ref mca, .ref mwa, .int 0, .ref mrd])), (mts, .inl (k_mts, 4, .inl f111)), (mtz, .inl (k_mtz, 4, .inl tzf)), (mtn, .inl (k_mtn, 96, .inl tnf))]) X Z278 1 0 rfl rfl (zz_in 3 4 rfl) dX7_sheet_50 (fun _ => rfl) (fun f111 ef112 H322 locs323 Z324 => ?_)
              clear Z278
              refine lv_aload_n hx hb dX7_sheet_51 rfl (lv_at hl 0 rfl) ?_
              refine zz_get X Z324 0 rfl rfl (fun w h => List.mem_cons_of_mem _ (List.mem_append_right _ h)) 5 rfl (zz_m 5 rfl) rfl dX7_sheet_52 ?_
              refine lv_iload_n hx hb dX7_sheet_55 rfl (lv_at hl 1 rfl) ?_
              refine lv_iload_n hx hb dX7_sheet_56 rfl (lv_at hl 2 rfl) ?_
              refine lv_if_ge (tgt := 64) hx hb dX7_sheet_57 (by decide) (fun b113 => ?_) (fun b113 => ?_)
              · refine lv_iload_n hx hb dX7_sheet_64 rfl (lv_at hl 3 rfl) ?_
                refine zz_istN (WS' := fun f114 => [(mo, .inr (7, [.ref ms, .ref mi, .ref ma, .int 0, .ref mts, .ref mtz, .ref mtn, .ref mh, .ref mhn, .ref mhw, .ref mhz, .ref mhr, .ref mcl, .ref mtp, .int 0, .int 0, .int 0, .int 0, .int 0, .int 0, .int 0, .int 0, .int 0, .int 0, .int 0, .ref mna, .ref mpi, .ref mca, .ref mwa, .int 0, .ref mrd])), (mts, .inl (k_mts, 4, .inl f111)), (mtz, .inl (k_mtz, 4, .inl f114)), (mtn, .inl (k_mtn, 96, .inl tnf))]) X Z324 2 1 rfl rfl (zz_in 3 4 rfl) dX7_sheet_65 (fun _ => rfl) (fun f114 ef115 H325 locs326 Z327 => ?_)
                clear Z324
                refine lv_iconst (v := 0) hx hb dX7_sheet_66 (by decide) ?_
                refine lv_istore (lv' := [(4, .int 0), (0, .ref mo), (1, .int 3), (2, .int sort), (3, .int n)]) hx hb dX7_sheet_67 hl (by decide) rfl (fun ls328 hl329 => ?_)
                clear hl
                have loop : ∀ (k i : Nat) (vc : (Nat → Int32)), i + k = 24 → (True) → ∀ (Hq : Heap) (Lq : List Loc) (lq : Array Slot), zz_S D A s [(mo, .inr (7, [.ref ms, .ref mi, .ref ma, .int 0, .ref mts, .ref mtz, .ref mtn, .ref mh, .ref mhn, .ref mhw, .ref mhz, .ref mhr, .ref mcl, .ref mtp, .int 0, .int 0, .int 0, .int 0, .int 0, .int 0, .int 0, .int 0, .int 0, .int 0, .int 0, .ref mna, .ref mpi, .ref mca, .ref mwa, .int 0, .ref mrd])), (mts, .inl (k_mts, 4, .inl f111)), (mtz, .inl (k_mtz, 4, .inl f114)), (mtn, .inl (k_mtn, 96, .inl vc))] [(k_mts, .int), (k_mtz, .int), (k_mtn, .int)] Hq Lq → lv_has lq 5 [(4, .int (nI i)), (0, .ref mo), (1, .int 3), (2, .int sort), (3, .int n)] → W p l e (headSpec wsX7_sheet { frames := 2, cells := 0, slots := 0, locals := 45 }).room s m (List.toArray [.ref mo, .int 3, .int sort, .int n]) below meth c Hq Lq 0 0 (MQ below (va_Qi (fun (r : Int32) (u : Unit) => r = sp_sheet 3 sort n) (fun u t => zz_B D A ((fun (u : Unit) => []) u) ((fun (u : Unit) => []) u) t) A) (List.toArray [.ref mo, .int 3, .int sort, .int n]) s 0 0 A) (F0 m 69 lq []) := by
                  intro k
                  induction k with
                  | zero =>
                      intro i vc hik hinv H330 locs331 ls332 Z333 hl334
                      refine lv_iload hx hb dX7_sheet_69 (lv_at hl334 0 rfl) ?_
                      refine lv_bipush (v := 24) hx hb dX7_sheet_71 (by decide) ?_
                      refine lv_icmp_ge (tgt := 95) hx hb dX7_sheet_73 (by decide) (fun _ => ?_) (fun h => absurd (nI_le (a := 24) (b := i) (by omega) (by omega)) h)
                      refine lv_aload_n hx hb dX7_sheet_95 rfl (lv_at hl334 1 rfl) ?_
                      refine zz_get X Z333 0 rfl rfl (fun w h => List.mem_cons_of_mem _ (List.mem_append_right _ h)) 5 rfl (zz_m 5 rfl) rfl dX7_sheet_96 ?_
                      refine lv_iload_n hx hb dX7_sheet_99 rfl (lv_at hl334 2 rfl) ?_
                      refine zz_ild X Z333 2 1 rfl rfl (zz_in 3 4 rfl) dX7_sheet_100 ?_
                      refine zz_v (v := n) (by rw [ef115]; rfl) ?_
                      exact zz_iret X hr hlk Z333 () (by simp [sp_sheet, w96, (zz_tn b97), (Int32.not_lt.mpr b109), (Int32.not_lt.mpr b110)]) [] [] (by decide +kernel) rfl rfl dX7_sheet_101
                  | succ k ih =>
                      intro i vc hik hinv H335 locs336 ls337 Z338 hl339
                      refine lv_iload hx hb dX7_sheet_69 (lv_at hl339 0 rfl) ?_
                      refine lv_bipush (v := 24) hx hb dX7_sheet_71 (by decide) ?_
                      refine lv_icmp_ge (tgt := 95) hx hb dX7_sheet_73 (by decide) (fun h => absurd h (nI_ge (a := i) (b := 24) (by omega) (by omega))) (fun _ => ?_)
                      refine lv_aload_n hx hb dX7_sheet_76 rfl (lv_at hl339 1 rfl) ?_
                      refine zz_get X Z338 0 rfl rfl (fun w h => List.mem_cons_of_mem _ (List.mem_append_right _ h)) 6 rfl (zz_m 6 rfl) rfl dX7_sheet_77 ?_
                      refine lv_bipush (v := 24) hx hb dX7_sheet_80 (by decide) ?_
                      refine lv_iload_n hx hb dX7_sheet_82 rfl (lv_at hl339 2 rfl) ?_
                      refine lv_imul hx hb dX7_sheet_83 ?_
                      refine zz_v (v := 72) (by decide) ?_
                      refine lv_iload hx hb dX7_sheet_84 (lv_at hl339 0 rfl) ?_
                      refine lv_iadd hx hb dX7_sheet_86 ?_
                      refine lv_iconst (v := 0) hx hb dX7_sheet_87 (by decide) ?_
                      refine zz_istN (WS' := fun f116 => [(mo, .inr (7, [.ref ms, .ref mi, .ref ma, .int 0, .ref mts, .ref mtz, .ref mtn, .ref mh, .ref mhn, .ref mhw, .ref mhz, .ref mhr, .ref mcl, .ref mtp, .int 0, .int 0, .int 0, .int 0, .int 0, .int 0, .int 0, .int 0, .int 0, .int 0, .int 0, .ref mna, .ref mpi, .ref mca, .ref mwa, .int 0, .ref mrd])), (mts, .inl (k_mts, 4, .inl f111)), (mtz, .inl (k_mtz, 4, .inl f114)), (mtn, .inl (k_mtn, 96, .inl f116))]) X Z338 3 2 rfl rfl (zz_inA 72 i 96 (by omega) (by omega)) dX7_sheet_88 (fun _ => rfl) (fun f116 ef117 H340 locs341 Z342 => ?_)
                      clear Z338
                      refine lv_iinc (v := nI (i + 1)) (lv' := [(4, .int (nI (i + 1))), (0, .ref mo), (1, .int 3), (2, .int sort), (3, .int n)]) hx hb dX7_sheet_89 hl339 (k := 0) rfl (nI_1 i) (by decide) rfl (fun ls343 hl344 => ?_)
                      clear hl339
                      refine lv_goto (tgt := 69) hx hb dX7_sheet_92 (by decide) ?_
                      exact ih (i + 1) f116 (by omega) trivial _ _ _ Z342 (lv_sub hl344 [0, 1, 2, 3, 4] rfl)
                exact loop 24 0 tnf (by omega) trivial _ _ _ Z327 hl329
              · refine lv_iconst (v := 0) hx hb dX7_sheet_60 (by decide) ?_
                refine lv_goto (tgt := 65) hx hb dX7_sheet_61 (by decide) ?_
                refine zz_istN (WS' := fun f118 => [(mo, .inr (7, [.ref ms, .ref mi, .ref ma, .int 0, .ref mts, .ref mtz, .ref mtn, .ref mh, .ref mhn, .ref mhw, .ref mhz, .ref mhr, .ref mcl, .ref mtp, .int 0, .int 0, .int 0, .int 0, .int 0, .int 0, .int 0, .int 0, .int 0, .int 0, .int 0, .ref mna, .ref mpi, .ref mca, .ref mwa, .int 0, .ref mrd])), (mts, .inl (k_mts, 4, .inl f111)), (mtz, .inl (k_mtz, 4, .inl f118)), (mtn, .inl (k_mtn, 96, .inl tnf))]) X Z324 2 1 rfl rfl (zz_in 3 4 rfl) dX7_sheet_65 (fun _ => rfl) (fun f118 ef119 H345 locs346 Z347 => ?_)
                clear Z324
                refine lv_iconst (v := 0) hx hb dX7_sheet_66 (by decide) ?_
                refine lv_istore (lv' := [(4, .int 0), (0, .ref mo), (1, .int 3), (2, .int sort), (3, .int n)]) hx hb dX7_sheet_67 hl (by decide) rfl (fun ls348 hl349 => ?_)
                clear hl
                have loop : ∀ (k i : Nat) (vc : (Nat → Int32)), i + k = 24 → (True) → ∀ (Hq : Heap) (Lq : List Loc) (lq : Array Slot), zz_S D A s [(mo, .inr (7, [.ref ms, .ref mi, .ref ma, .int 0, .ref mts, .ref mtz, .ref mtn, .ref mh, .ref mhn, .ref mhw, .ref mhz, .ref mhr, .ref mcl, .ref mtp, .int 0, .int 0, .int 0, .int 0, .int 0, .int 0, .int 0, .int 0, .int 0, .int 0, .int 0, .ref mna, .ref mpi, .ref mca, .ref mwa, .int 0, .ref mrd])), (mts, .inl (k_mts, 4, .inl f111)), (mtz, .inl (k_mtz, 4, .inl f118)), (mtn, .inl (k_mtn, 96, .inl vc))] [(k_mts, .int), (k_mtz, .int), (k_mtn, .int)] Hq Lq → lv_has lq 5 [(4, .int (nI i)), (0, .ref mo), (1, .int 3), (2, .int sort), (3, .int n)] → W p l e (headSpec wsX7_sheet { frames := 2, cells := 0, slots := 0, locals := 45 }).room s m (List.toArray [.ref mo, .int 3, .int sort, .int n]) below meth c Hq Lq 0 0 (MQ below (va_Qi (fun (r : Int32) (u : Unit) => r = sp_sheet 3 sort n) (fun u t => zz_B D A ((fun (u : Unit) => []) u) ((fun (u : Unit) => []) u) t) A) (List.toArray [.ref mo, .int 3, .int sort, .int n]) s 0 0 A) (F0 m 69 lq []) := by
                  intro k
                  induction k with
                  | zero =>
                      intro i vc hik hinv H350 locs351 ls352 Z353 hl354
                      refine lv_iload hx hb dX7_sheet_69 (lv_at hl354 0 rfl) ?_
                      refine lv_bipush (v := 24) hx hb dX7_sheet_71 (by decide) ?_
                      refine lv_icmp_ge (tgt := 95) hx hb dX7_sheet_73 (by decide) (fun _ => ?_) (fun h => absurd (nI_le (a := 24) (b := i) (by omega) (by omega)) h)
                      refine lv_aload_n hx hb dX7_sheet_95 rfl (lv_at hl354 1 rfl) ?_
                      refine zz_get X Z353 0 rfl rfl (fun w h => List.mem_cons_of_mem _ (List.mem_append_right _ h)) 5 rfl (zz_m 5 rfl) rfl dX7_sheet_96 ?_
                      refine lv_iload_n hx hb dX7_sheet_99 rfl (lv_at hl354 2 rfl) ?_
                      refine zz_ild X Z353 2 1 rfl rfl (zz_in 3 4 rfl) dX7_sheet_100 ?_
                      refine zz_v (v := 0) (by rw [ef119]; rfl) ?_
                      exact zz_iret X hr hlk Z353 () (by simp [sp_sheet, w96, (zz_tn b97), (Int32.not_lt.mpr b109), (Int32.not_lt.mpr b110)]) [] [] (by decide +kernel) rfl rfl dX7_sheet_101
                  | succ k ih =>
                      intro i vc hik hinv H355 locs356 ls357 Z358 hl359
                      refine lv_iload hx hb dX7_sheet_69 (lv_at hl359 0 rfl) ?_
                      refine lv_bipush (v := 24) hx hb dX7_sheet_71 (by decide) ?_
                      refine lv_icmp_ge (tgt := 95) hx hb dX7_sheet_73 (by decide) (fun h => absurd h (nI_ge (a := i) (b := 24) (by omega) (by omega))) (fun _ => ?_)
                      refine lv_aload_n hx hb dX7_sheet_76 rfl (lv_at hl359 1 rfl) ?_
                      refine zz_get X Z358 0 rfl rfl (fun w h => List.mem_cons_of_mem _ (List.mem_append_right _ h)) 6 rfl (zz_m 6 rfl) rfl dX7_sheet_77 ?_
                      refine lv_bipush (v := 24) hx hb dX7_sheet_80 (by decide) ?_
                      refine lv_iload_n hx hb dX7_sheet_82 rfl (lv_at hl359 2 rfl) ?_
                      refine lv_imul hx hb dX7_sheet_83 ?_
                      refine zz_v (v := 72) (by decide) ?_
                      refine lv_iload hx hb dX7_sheet_84 (lv_at hl359 0 rfl) ?_
                      refine lv_iadd hx hb dX7_sheet_86 ?_
                      refine lv_iconst (v := 0) hx hb dX7_sheet_87 (by decide) ?_
                      refine zz_istN (WS' := fun f120 => [(mo, .inr (7, [.ref ms, .ref mi, .ref ma, .int 0, .ref mts, .ref mtz, .ref mtn, .ref mh, .ref mhn, .ref mhw, .ref mhz, .ref mhr, .ref mcl, .ref mtp, .int 0, .int 0, .int 0, .int 0, .int 0, .int 0, .int 0, .int 0, .int 0, .int 0, .int 0, .ref mna, .ref mpi, .ref mca, .ref mwa, .int 0, .ref mrd])), (mts, .inl (k_mts, 4, .inl f111)), (mtz, .inl (k_mtz, 4, .inl f118)), (mtn, .inl (k_mtn, 96, .inl f120))]) X Z358 3 2 rfl rfl (zz_inA 72 i 96 (by omega) (by omega)) dX7_sheet_88 (fun _ => rfl) (fun f120 ef121 H360 locs361 Z362 => ?_)
                      clear Z358
                      refine lv_iinc (v := nI (i + 1)) (lv' := [(4, .int (nI (i + 1))), (0, .ref mo), (1, .int 3), (2, .int sort), (3, .int n)]) hx hb dX7_sheet_89 hl359 (k := 0) rfl (nI_1 i) (by decide) rfl (fun ls363 hl364 => ?_)
                      clear hl359
                      refine lv_goto (tgt := 69) hx hb dX7_sheet_92 (by decide) ?_
                      exact ih (i + 1) f120 (by omega) trivial _ _ _ Z362 (lv_sub hl364 [0, 1, 2, 3, 4] rfl)
                exact loop 24 0 tnf (by omega) trivial _ _ _ Z347 hl349
            · refine lv_ldcw (v := (-1000000014)) hx hb hown (hts _ (zz_m 3 rfl)) dX7_sheet_40 ?_
              exact zz_iret X hr hlk Z278 () (by simp [sp_sheet, w96, (zz_tn b97), (Int32.not_lt.mpr b109), (Int32.not_le.mp b110)]) [] [] (by decide +kernel) rfl rfl dX7_sheet_43
          · refine lv_ldc (v := (-1000000001)) hx hb hown (hts _ (zz_m 2 rfl)) dX7_sheet_29 ?_
            exact zz_iret X hr hlk Z278 () (by simp [sp_sheet, w96, (zz_tn b97), (Int32.not_le.mp b109)]) [] [] (by decide +kernel) rfl rfl dX7_sheet_31
      · refine zz_v (v := 0) (zz_wiF w96) ?_
        refine lv_if_eq (tgt := 29) hx hb dX7_sheet_16 (by decide) (fun _ => ?_) (fun h => absurd (by decide) h)
        refine lv_ldc (v := (-1000000001)) hx hb hown (hts _ (zz_m 2 rfl)) dX7_sheet_29 ?_
        exact zz_iret X hr hlk Z278 () (by simp [sp_sheet, w96]) [] [] (by decide +kernel) rfl rfl dX7_sheet_31
  · refine zz_v (v := 0) (zz_wiF w4) ?_
    refine lv_if_eq (tgt := 29) hx hb dX7_sheet_4 (by decide) (fun _ => ?_) (fun h => absurd (by decide) h)
    refine lv_ldc (v := (-1000000001)) hx hb hown (hts _ (zz_m 2 rfl)) dX7_sheet_29 ?_
    exact zz_iret X hr hlk Z4 () (by simp [sp_sheet, w4]) [] [] (by decide +kernel) rfl rfl dX7_sheet_31

set_option maxHeartbeats 4000000 in
set_option maxRecDepth 100000 in
theorem c7_best (l : Launch) (D : va_G) (mo : Nat) (ms : Nat) (mi : Nat) (ma : Nat) (mts : Nat) (mtz : Nat) (mtn : Nat) (mh : Nat) (mhn : Nat) (mhw : Nat) (mhz : Nat) (mhr : Nat) (mcl : Nat) (mtp : Nat) (mna : Nat) (mpi : Nat) (mca : Nat) (mwa : Nat) (mrd : Nat) (kms : ClassId) (f : (Nat → Int32)) (kcl : ClassId) (cf : (Nat → Int32)) (n : Int32) (what : Int32) (af_0 : f 0 = 0) (af_1 : f 1 = 0) (af_2 : f 2 = 0) (af_3 : f 3 = 0) (af_4 : f 4 = 0) (af_5 : f 5 = 0) (af_6 : f 6 = 1) (af_7 : f 7 = 0) (af_8 : f 8 = 3) (af_9 : f 9 = 10) (af_10 : f 10 = 0) : zz_MI l yX7_best wsX7_best 3 64 0 0 D [.ref mo, .int n, .int what] [(mo, .inr (7, [.ref ms, .ref mi, .ref ma, .int 0, .ref mts, .ref mtz, .ref mtn, .ref mh, .ref mhn, .ref mhw, .ref mhz, .ref mhr, .ref mcl, .ref mtp, .int 0, .int 0, .int 0, .int 0, .int 0, .int 0, .int 0, .int 0, .int 0, .int 0, .int 0, .ref mna, .ref mpi, .ref mca, .ref mwa, .int 0, .ref mrd])), (ms, .inl (kms, 3047, .inl f)), (mcl, .inl (kcl, 47, .inl cf))] [(kms, .int), (kcl, .int)] (fun (r : Int32) (u : Unit) => r = sp_best n what) (fun (u : Unit) => []) (fun (u : Unit) => []) := by
  intro sz
  refine Met.ofW (cc := cX7_best) (maxL := 9) (ret := (some .int)) (by decide) rfl ?_
  intro p e s m args below meth c s₁ B hml hv
  obtain ⟨rfl, hC⟩ := hv
  have hx := B.exec
  have hb := B.bytes
  have hr := B.returns
  have hts := atoms_spec (ws := wsX7_best) B.pre
  have hown : s.vm.findClass RX7 = some m.cls := findClass_of_methodNamed B.named
  have hlk := B.notSynchronized
  have X : CallFix p m c cX7_best 9 s _ wsX7_best RX7 := ⟨hx, hb, hml, hown, hts⟩
  have Z := zz_enter hC
  generalize va_A [(mo, .inr (7, [.ref ms, .ref mi, .ref ma, .int 0, .ref mts, .ref mtz, .ref mtn, .ref mh, .ref mhn, .ref mhw, .ref mhz, .ref mhr, .ref mcl, .ref mtp, .int 0, .int 0, .int 0, .int 0, .int 0, .int 0, .int 0, .int 0, .int 0, .int 0, .int 0, .ref mna, .ref mpi, .ref mca, .ref mwa, .int 0, .ref mrd])), (ms, .inl (kms, 3047, .inl f)), (mcl, .inl (kcl, 47, .inl cf))] sz = A at Z ⊢
  have hl := lv_entry ([.ref mo, .int n, .int what]) (n := 9) (Nat.le_of_ble_eq_true rfl)
  rw [lg_entry_eq]
  generalize (lg_sl ([.ref mo, .int n, .int what]) ++ List.replicate (9 - (lg_sl ([.ref mo, .int n, .int what])).length) Slot.unset).toArray = ls at hl ⊢
  have hl : lv_has ls 9 [(0, .ref mo), (1, .int n), (2, .int what)] := hl
  refine lv_iload_n hx hb dX7_best_0 rfl (lv_at hl 1 rfl) ?_
  refine lv_i2l (v := Int32.toInt64 n) hx hb dX7_best_1 rfl ?_
  refine lv_lconst (v := 1) hx hb dX7_best_2 (by decide) ?_
  refine zz_vl (v := Int32.toInt64 1) (by decide) ?_
  refine lv_ldc2 (v := 5) hx hb hown (hts _ (zz_m 1 rfl)) dX7_best_3 ?_
  refine zz_vl (v := Int32.toInt64 5) (by decide) ?_
  refine zz_ci (WC := []) (TC := []) (WR := [(mo, .inr (7, [.ref ms, .ref mi, .ref ma, .int 0, .ref mts, .ref mtz, .ref mtn, .ref mh, .ref mhn, .ref mhw, .ref mhz, .ref mhr, .ref mcl, .ref mtp, .int 0, .int 0, .int 0, .int 0, .int 0, .int 0, .int 0, .int 0, .int 0, .int 0, .int 0, .ref mna, .ref mpi, .ref mca, .ref mwa, .int 0, .ref mrd])), (ms, .inl (kms, 3047, .inl f)), (mcl, .inl (kcl, 47, .inl cf))]) (TR := [(kms, .int), (kcl, .int)]) (k := 0) (n := 0) Z [] [0, 1, 2] [] [0, 1] rfl rfl (by decide +kernel) (by decide +kernel) (by decide +kernel) rfl rfl (fun Zc => va_runS (As := [.long (Int32.toInt64 n), .long (Int32.toInt64 1), .long (Int32.toInt64 5)]) (rest := []) X (c_isIn l D n 1 5 s.heap.size) (va_cwS 3 hts gX7_best_X7_isIn rfl rfl rfl zh_X7_isIn ⟨Nat.le_of_ble_eq_true rfl, Nat.le_of_ble_eq_true rfl⟩) (zz_pS Zc) rfl rfl hl.1 rfl (lv_room (Nat.le_of_ble_eq_true rfl)) dX7_best_6 ⟨Nat.le_of_ble_eq_true rfl, Nat.le_of_ble_eq_true rfl⟩) rfl rfl (fun r3 u1 H1 locs2 hw2 Z3 => ?_)
  clear Z
  subst r3
  have Z4 : zz_S D A s [(mo, .inr (7, [.ref ms, .ref mi, .ref ma, .int 0, .ref mts, .ref mtz, .ref mtn, .ref mh, .ref mhn, .ref mhw, .ref mhz, .ref mhr, .ref mcl, .ref mtp, .int 0, .int 0, .int 0, .int 0, .int 0, .int 0, .int 0, .int 0, .int 0, .int 0, .int 0, .ref mna, .ref mpi, .ref mca, .ref mwa, .int 0, .ref mrd])), (ms, .inl (kms, 3047, .inl f)), (mcl, .inl (kcl, 47, .inl cf))] [(kms, .int), (kcl, .int)] H1 locs2 := Z3
  clear Z3
  by_cases w4 : 1 ≤ n ∧ n ≤ 5
  · obtain ⟨j, ⟨hj1, hj⟩, e5⟩ := zz_rng1 5 w4 (by decide)
    rcases (show j = 1 ∨ j = 2 ∨ j = 3 ∨ j = 4 ∨ j = 5 by omega) with rfl | rfl | rfl | rfl | rfl
    · have e5 : n = 1 := e5
      subst e5
      refine zz_v (v := 1) (by decide) ?_
      refine lv_if_eq (tgt := 22) hx hb dX7_best_9 (by decide) (fun h => absurd h (by decide)) (fun _ => ?_)
      refine lv_iload_n hx hb dX7_best_12 rfl (lv_at hl 2 rfl) ?_
      refine lv_i2l (v := Int32.toInt64 what) hx hb dX7_best_13 rfl ?_
      refine lv_lconst (v := 0) hx hb dX7_best_14 (by decide) ?_
      refine zz_vl (v := Int32.toInt64 0) (by decide) ?_
      refine lv_lconst (v := 1) hx hb dX7_best_15 (by decide) ?_
      refine zz_vl (v := Int32.toInt64 1) (by decide) ?_
      refine zz_ci (WC := []) (TC := []) (WR := [(mo, .inr (7, [.ref ms, .ref mi, .ref ma, .int 0, .ref mts, .ref mtz, .ref mtn, .ref mh, .ref mhn, .ref mhw, .ref mhz, .ref mhr, .ref mcl, .ref mtp, .int 0, .int 0, .int 0, .int 0, .int 0, .int 0, .int 0, .int 0, .int 0, .int 0, .int 0, .ref mna, .ref mpi, .ref mca, .ref mwa, .int 0, .ref mrd])), (ms, .inl (kms, 3047, .inl f)), (mcl, .inl (kcl, 47, .inl cf))]) (TR := [(kms, .int), (kcl, .int)]) (k := 0) (n := 0) Z4 [] [0, 1, 2] [] [0, 1] rfl rfl (by decide +kernel) (by decide +kernel) (by decide +kernel) rfl rfl (fun Zc => va_runS (As := [.long (Int32.toInt64 what), .long (Int32.toInt64 0), .long (Int32.toInt64 1)]) (rest := []) X (c_isIn l D what 0 1 H1.size) (va_cwS 3 hts gX7_best_X7_isIn rfl rfl rfl zh_X7_isIn ⟨Nat.le_of_ble_eq_true rfl, Nat.le_of_ble_eq_true rfl⟩) (zz_pS Zc) rfl rfl hl.1 rfl (lv_room (Nat.le_of_ble_eq_true rfl)) dX7_best_16 ⟨Nat.le_of_ble_eq_true rfl, Nat.le_of_ble_eq_true rfl⟩) rfl rfl (fun r8 u6 H5 locs6 hw7 Z7 => ?_)
      clear Z4
      subst r8
      have Z8 : zz_S D A s [(mo, .inr (7, [.ref ms, .ref mi, .ref ma, .int 0, .ref mts, .ref mtz, .ref mtn, .ref mh, .ref mhn, .ref mhw, .ref mhz, .ref mhr, .ref mcl, .ref mtp, .int 0, .int 0, .int 0, .int 0, .int 0, .int 0, .int 0, .int 0, .int 0, .int 0, .int 0, .ref mna, .ref mpi, .ref mca, .ref mwa, .int 0, .ref mrd])), (ms, .inl (kms, 3047, .inl f)), (mcl, .inl (kcl, 47, .inl cf))] [(kms, .int), (kcl, .int)] H5 locs6 := Z7
      clear Z7
      by_cases w9 : 0 ≤ what ∧ what ≤ 1
      · refine zz_v (v := 1) (zz_wiT w9) ?_
        refine lv_if_ne (tgt := 25) hx hb dX7_best_19 (by decide) (fun _ => ?_) (fun h => absurd h (by decide))
        refine lv_iconst (v := 1) hx hb dX7_best_25 (by decide) ?_
        refine lv_istore_n (lv' := [(3, .int 1), (0, .ref mo), (1, .int 1), (2, .int what)]) hx hb dX7_best_26 rfl hl (by decide) rfl (fun ls9 hl10 => ?_)
        clear hl
        refine lv_iconst (v := 1) hx hb dX7_best_27 (by decide) ?_
        refine lv_istore (lv' := [(4, .int 1), (3, .int 1), (0, .ref mo), (1, .int 1), (2, .int what)]) hx hb dX7_best_28 hl10 (by decide) rfl (fun ls11 hl12 => ?_)
        clear hl10
        refine lv_iload hx hb dX7_best_30 (lv_at hl12 0 rfl) ?_
        refine lv_iload_n hx hb dX7_best_32 rfl (lv_at hl12 3 rfl) ?_
        refine lv_icmp_ge (tgt := 46) hx hb dX7_best_33 (by decide) (fun _ => ?_) (fun h => absurd (by decide) h)
        refine lv_aload_n hx hb dX7_best_46 rfl (lv_at hl12 2 rfl) ?_
        refine zz_cv (WC := [(mo, .inr (7, [.ref ms, .ref mi, .ref ma, .int 0, .ref mts, .ref mtz, .ref mtn, .ref mh, .ref mhn, .ref mhw, .ref mhz, .ref mhr, .ref mcl, .ref mtp, .int 0, .int 0, .int 0, .int 0, .int 0, .int 0, .int 0, .int 0, .int 0, .int 0, .int 0, .ref mna, .ref mpi, .ref mca, .ref mwa, .int 0, .ref mrd])), (ms, .inl (kms, 3047, .inl f)), (mcl, .inl (kcl, 47, .inl cf))]) (TC := [(kms, .int), (kcl, .int)]) (WR := []) (TR := []) (k := 0) (n := 0) Z8 [0, 1, 2] [] [0, 1] [] rfl rfl (by decide +kernel) (by decide +kernel) (by decide +kernel) rfl rfl (fun Zc => va_runV (As := []) (rest := []) X (c7_laysBy l D mo ms mi ma mts mtz mtn mh mhn mhw mhz mhr mcl mtp mna mpi mca mwa mrd 0 0 0 0 0 0 0 0 0 0 0 0 0 kms f kcl cf H5.size) (cwV 0 hts gX7_best_X7_laysBy rfl rfl rfl ⟨rfl, zh_X7_laysBy⟩ ⟨Nat.le_of_ble_eq_true rfl, Nat.le_of_ble_eq_true rfl⟩) (zz_pV (ci := 7) Zc 0 rfl rfl) rfl rfl hl12.1 rfl (lv_room (Nat.le_of_ble_eq_true rfl)) dX7_best_47 ⟨Nat.le_of_ble_eq_true rfl, Nat.le_of_ble_eq_true rfl⟩) rfl rfl (fun u10 H13 locs14 hw11 Z15 => ?_)
        clear Z8
        obtain ⟨c913, rfl⟩ : ∃ z, z = u10 := ⟨_, rfl⟩
        try dsimp only at hw11 Z15
        have Z16 : zz_S D A s [(mo, .inr (7, [.ref ms, .ref mi, .ref ma, .int 0, .ref mts, .ref mtz, .ref mtn, .ref mh, .ref mhn, .ref mhw, .ref mhz, .ref mhr, .ref mcl, .ref mtp, .int 0, .int 0, .int 0, .int 0, .int 0, .int 0, .int 0, .int 0, .int 0, .int 0, .int 0, .ref mna, .ref mpi, .ref mca, .ref mwa, .int 0, .ref mrd])), (ms, .inl (kms, 3047, .inl f)), (mcl, .inl (kcl, 47, .inl c913))] [(kms, .int), (kcl, .int)] H13 locs14 := Z15
        clear Z15
        refine lv_iconst (v := (-1)) hx hb dX7_best_50 (by decide) ?_
        refine lv_istore (lv' := [(4, .int (-1)), (3, .int 1), (0, .ref mo), (1, .int 1), (2, .int what)]) hx hb dX7_best_51 hl12 (by decide) rfl (fun ls17 hl18 => ?_)
        clear hl12
        refine lv_iconst (v := 0) hx hb dX7_best_53 (by decide) ?_
        refine lv_istore (lv' := [(5, .int 0), (4, .int (-1)), (3, .int 1), (0, .ref mo), (1, .int 1), (2, .int what)]) hx hb dX7_best_54 hl18 (by decide) rfl (fun ls19 hl20 => ?_)
        clear hl18
        refine lv_iconst (v := 0) hx hb dX7_best_56 (by decide) ?_
        refine lv_istore (lv' := [(6, .int 0), (5, .int 0), (4, .int (-1)), (3, .int 1), (0, .ref mo), (1, .int 1), (2, .int what)]) hx hb dX7_best_57 hl20 (by decide) rfl (fun ls21 hl22 => ?_)
        clear hl20
        have loop : ∀ (k i : Nat) (vf : Nat → Int32) (vb : Int32), i + k = 3 → (vf 0 = 0 ∧ vf 1 = 0 ∧ vf 2 = 0 ∧ vf 3 = 0 ∧ vf 4 = 0 ∧ vf 5 = 0 ∧ vf 6 = 1 ∧ vf 7 = 0 ∧ vf 8 = 3 ∧ vf 9 = 10 ∧ vf 10 = 0 ∧ ((i = 0 ∧ vb = -1) ∨ (0 < i ∧ vb = 0))) → ∀ (Hq : Heap) (Lq : List Loc) (lq : Array Slot), zz_S D A s [(mo, .inr (7, [.ref ms, .ref mi, .ref ma, .int 0, .ref mts, .ref mtz, .ref mtn, .ref mh, .ref mhn, .ref mhw, .ref mhz, .ref mhr, .ref mcl, .ref mtp, .int 0, .int 0, .int 0, .int 0, .int 0, .int 0, .int 0, .int 0, .int 0, .int 0, .int 0, .ref mna, .ref mpi, .ref mca, .ref mwa, .int 0, .ref mrd])), (ms, .inl (kms, 3047, .inl vf)), (mcl, .inl (kcl, 47, .inl c913))] [(kms, .int), (kcl, .int)] Hq Lq → lv_has lq 9 [(6, .int (nI i)), (5, .int 0), (4, .int vb), (3, .int 1), (0, .ref mo), (1, .int 1), (2, .int what)] → W p l e (headSpec wsX7_best { frames := 3, cells := 0, slots := 0, locals := 64 }).room s m (List.toArray [.ref mo, .int 1, .int what]) below meth c Hq Lq 0 0 (MQ below (va_Qi (fun (r : Int32) (u : Unit) => r = sp_best 1 what) (fun u t => zz_B D A ((fun (u : Unit) => []) u) ((fun (u : Unit) => []) u) t) A) (List.toArray [.ref mo, .int 1, .int what]) s 0 0 A) (F0 m 59 lq []) := by
          intro k
          induction k with
          | zero =>
              intro i vf vb hik hinv H23 locs24 ls25 Z26 hl27
              rcases hinv.2.2.2.2.2.2.2.2.2.2.2 with ⟨h0, hv⟩ | ⟨h0, hv⟩
              · omega
              subst hv
              refine lv_iload hx hb dX7_best_59 (lv_at hl27 0 rfl) ?_
              refine lv_iconst (v := 3) hx hb dX7_best_61 (by decide) ?_
              refine lv_iload_n hx hb dX7_best_62 rfl (lv_at hl27 3 rfl) ?_
              refine lv_imul hx hb dX7_best_63 ?_
              refine zz_v (v := 3) (by decide) ?_
              refine lv_icmp_ge (tgt := 155) hx hb dX7_best_64 (by decide) (fun _ => ?_) (fun h => absurd (nI_le (a := 3) (b := i) (by omega) (by omega)) h)
              refine lv_iload_n hx hb dX7_best_155 rfl (lv_at hl27 6 rfl) ?_
              refine lv_if_ne (tgt := 164) hx hb dX7_best_156 (by decide) (fun b14 => ?_) (fun b14 => ?_)
              · refine lv_iload hx hb dX7_best_164 (lv_at hl27 1 rfl) ?_
                exact zz_iret X hr hlk Z26 () (by simp [sp_best, w9]) [] [] (by decide +kernel) rfl rfl dX7_best_166
              · refine lv_iload hx hb dX7_best_159 (lv_at hl27 2 rfl) ?_
                refine lv_goto (tgt := 166) hx hb dX7_best_161 (by decide) ?_
                exact zz_iret X hr hlk Z26 () (by simp [sp_best, w9]) [] [] (by decide +kernel) rfl rfl dX7_best_166
          | succ k ih =>
              intro i vf vb hik hinv H28 locs29 ls30 Z31 hl32
              rcases hinv.2.2.2.2.2.2.2.2.2.2.2 with ⟨h0, hv⟩ | ⟨h0, hv⟩
              · subst hv
                refine lv_iload hx hb dX7_best_59 (lv_at hl32 0 rfl) ?_
                refine lv_iconst (v := 3) hx hb dX7_best_61 (by decide) ?_
                refine lv_iload_n hx hb dX7_best_62 rfl (lv_at hl32 3 rfl) ?_
                refine lv_imul hx hb dX7_best_63 ?_
                refine zz_v (v := 3) (by decide) ?_
                refine lv_icmp_ge (tgt := 155) hx hb dX7_best_64 (by decide) (fun h => absurd h (nI_ge (a := i) (b := 3) (by omega) (by omega))) (fun _ => ?_)
                refine lv_iload_n hx hb dX7_best_67 rfl (lv_at hl32 3 rfl) ?_
                refine lv_istore (lv' := [(7, .int 1), (6, .int (nI i)), (5, .int 0), (4, .int (-1)), (3, .int 1), (0, .ref mo), (1, .int 1), (2, .int what)]) hx hb dX7_best_68 hl32 (by decide) rfl (fun ls33 hl34 => ?_)
                clear hl32
                have inner : ∀ (t : Nat), t ≤ 5 → ∀ (vf : Nat → Int32) (v2 v5 v6 v7 : Int32), vf 0 = 0 ∧ vf 1 = 0 ∧ vf 2 = v2 ∧ vf 3 = 0 ∧ vf 4 = 0 ∧ vf 5 = v5 ∧ vf 6 = v6 ∧ vf 7 = v7 ∧ vf 8 = 3 ∧ vf 9 = 10 ∧ vf 10 = 0 → ∀ (Hq : Heap) (Lq : List Loc) (lq : Array Slot), zz_S D A s [(mo, .inr (7, [.ref ms, .ref mi, .ref ma, .int 0, .ref mts, .ref mtz, .ref mtn, .ref mh, .ref mhn, .ref mhw, .ref mhz, .ref mhr, .ref mcl, .ref mtp, .int 0, .int 0, .int 0, .int 0, .int 0, .int 0, .int 0, .int 0, .int 0, .int 0, .int 0, .ref mna, .ref mpi, .ref mca, .ref mwa, .int 0, .ref mrd])), (ms, .inl (kms, 3047, .inl vf)), (mcl, .inl (kcl, 47, .inl c913))] [(kms, .int), (kcl, .int)] Hq Lq → lv_has lq 9 [(7, .int (nI (zz_pw t))), (6, .int (nI i)), (5, .int 0), (4, .int (-1)), (3, .int 1), (0, .ref mo), (1, .int 1), (2, .int what)] → W p l e (headSpec wsX7_best { frames := 3, cells := 0, slots := 0, locals := 64 }).room s m (List.toArray [.ref mo, .int 1, .int what]) below meth c Hq Lq 0 0 (MQ below (va_Qi (fun (r : Int32) (u : Unit) => r = sp_best 1 what) (fun u t => zz_B D A ((fun (u : Unit) => []) u) ((fun (u : Unit) => []) u) t) A) (List.toArray [.ref mo, .int 1, .int what]) s 0 0 A) (F0 m 70 lq []) := by
                  intro t
                  induction t with
                  | zero =>
                      intro ht vf v2 v5 v6 v7 hin H35 locs36 ls37 Z38 hl39
                      have hl40 : lv_has ls37 9 [(7, .int 0), (6, .int (nI i)), (5, .int 0), (4, .int (-1)), (3, .int 1), (0, .ref mo), (1, .int 1), (2, .int what)] := hl39
                      clear hl39
                      refine lv_iload hx hb dX7_best_70 (lv_at hl40 0 rfl) ?_
                      refine lv_if_le (tgt := 117) hx hb dX7_best_72 (by decide) (fun _ => ?_) (fun h => absurd (by decide) h)
                      refine lv_aload_n hx hb dX7_best_117 rfl (lv_at hl40 5 rfl) ?_
                      refine zz_get X Z38 0 rfl rfl (fun w h => List.mem_cons_of_mem _ (List.mem_append_right _ h)) 0 rfl (zz_m 3 rfl) rfl dX7_best_118 ?_
                      refine lv_iconst (v := 4) hx hb dX7_best_121 (by decide) ?_
                      refine zz_ild X Z38 1 0 rfl rfl (zz_in 4 3047 rfl) dX7_best_122 ?_
                      refine zz_v (v := 0) hin.2.2.2.2.1 ?_
                      refine lv_istore (lv' := [(7, .int 0), (6, .int (nI i)), (5, .int 0), (4, .int (-1)), (3, .int 1), (0, .ref mo), (1, .int 1), (2, .int what)]) hx hb dX7_best_123 hl40 (by decide) rfl (fun ls41 hl42 => ?_)
                      clear hl40
                      refine lv_aload_n hx hb dX7_best_125 rfl (lv_at hl42 5 rfl) ?_
                      refine zz_cv (WC := [(mo, .inr (7, [.ref ms, .ref mi, .ref ma, .int 0, .ref mts, .ref mtz, .ref mtn, .ref mh, .ref mhn, .ref mhw, .ref mhz, .ref mhr, .ref mcl, .ref mtp, .int 0, .int 0, .int 0, .int 0, .int 0, .int 0, .int 0, .int 0, .int 0, .int 0, .int 0, .ref mna, .ref mpi, .ref mca, .ref mwa, .int 0, .ref mrd])), (ms, .inl (kms, 3047, .inl vf)), (mcl, .inl (kcl, 47, .inl c913))]) (TC := [(kms, .int), (kcl, .int)]) (WR := []) (TR := []) (k := 0) (n := 0) Z38 [0, 1, 2] [] [0, 1] [] rfl rfl (by decide +kernel) (by decide +kernel) (by decide +kernel) rfl rfl (fun Zc => va_runV (As := []) (rest := []) X (c7_laysBack l D mo ms mi ma mts mtz mtn mh mhn mhw mhz mhr mcl mtp mna mpi mca mwa mrd 0 0 0 0 0 0 0 0 0 0 0 0 0 kms vf kcl c913 H35.size) (cwV 0 hts gX7_best_X7_laysBack rfl rfl rfl ⟨rfl, zh_X7_laysBack⟩ ⟨Nat.le_of_ble_eq_true rfl, Nat.le_of_ble_eq_true rfl⟩) (zz_pV (ci := 7) Zc 0 rfl rfl) rfl rfl hl42.1 rfl (lv_room (Nat.le_of_ble_eq_true rfl)) dX7_best_126 ⟨Nat.le_of_ble_eq_true rfl, Nat.le_of_ble_eq_true rfl⟩) rfl rfl (fun u15 H43 locs44 hw16 Z45 => ?_)
                      clear Z38
                      obtain ⟨f918, rfl⟩ : ∃ z, z = u15 := ⟨_, rfl⟩
                      try dsimp only at hw16 Z45
                      have Z46 : zz_S D A s [(mo, .inr (7, [.ref ms, .ref mi, .ref ma, .int 0, .ref mts, .ref mtz, .ref mtn, .ref mh, .ref mhn, .ref mhw, .ref mhz, .ref mhr, .ref mcl, .ref mtp, .int 0, .int 0, .int 0, .int 0, .int 0, .int 0, .int 0, .int 0, .int 0, .int 0, .int 0, .ref mna, .ref mpi, .ref mca, .ref mwa, .int 0, .ref mrd])), (ms, .inl (kms, 3047, .inl f918)), (mcl, .inl (kcl, 47, .inl c913))] [(kms, .int), (kcl, .int)] H43 locs44 := Z45
                      clear Z45
                      have p19 : f918 0 = 0 := (hw16 0 (by decide)).trans ((hw11 0 (by decide)).trans af_0)
                      have p20 : f918 1 = 0 := (hw16 1 (by decide)).trans ((hw11 1 (by decide)).trans af_1)
                      have p21 : f918 2 = 0 := (hw16 2 (by decide)).trans ((hw11 2 (by decide)).trans af_2)
                      have p22 : f918 3 = 0 := (hw16 3 (by decide)).trans ((hw11 3 (by decide)).trans af_3)
                      have p23 : f918 4 = 0 := (hw16 4 (by decide)).trans ((hw11 4 (by decide)).trans af_4)
                      have p24 : f918 5 = 0 := (hw16 5 (by decide)).trans ((hw11 5 (by decide)).trans af_5)
                      have p25 : f918 6 = 1 := (hw16 6 (by decide)).trans ((hw11 6 (by decide)).trans af_6)
                      have p26 : f918 7 = 0 := (hw16 7 (by decide)).trans ((hw11 7 (by decide)).trans af_7)
                      have p27 : f918 8 = 3 := (hw16 8 (by decide)).trans ((hw11 8 (by decide)).trans af_8)
                      have p28 : f918 9 = 10 := (hw16 9 (by decide)).trans ((hw11 9 (by decide)).trans af_9)
                      have p29 : f918 10 = 0 := (hw16 10 (by decide)).trans ((hw11 10 (by decide)).trans af_10)
                      refine lv_iload hx hb dX7_best_129 (lv_at hl42 3 rfl) ?_
                      refine lv_if_lt (tgt := 141) hx hb dX7_best_131 (by decide) (fun _ => ?_) (fun h => absurd (by decide) h)
                      refine lv_iload hx hb dX7_best_141 (lv_at hl42 1 rfl) ?_
                      refine lv_istore (lv' := [(4, .int (nI i)), (7, .int 0), (6, .int (nI i)), (5, .int 0), (3, .int 1), (0, .ref mo), (1, .int 1), (2, .int what)]) hx hb dX7_best_143 hl42 (by decide) rfl (fun ls47 hl48 => ?_)
                      clear hl42
                      refine lv_iload hx hb dX7_best_145 (lv_at hl48 1 rfl) ?_
                      refine lv_istore (lv' := [(5, .int 0), (4, .int (nI i)), (7, .int 0), (6, .int (nI i)), (3, .int 1), (0, .ref mo), (1, .int 1), (2, .int what)]) hx hb dX7_best_147 hl48 (by decide) rfl (fun ls49 hl50 => ?_)
                      clear hl48
                      refine lv_iinc (v := nI (i + 1)) (lv' := [(6, .int (nI (i + 1))), (5, .int 0), (4, .int (nI i)), (7, .int 0), (3, .int 1), (0, .ref mo), (1, .int 1), (2, .int what)]) hx hb dX7_best_149 hl50 (k := 3) rfl (nI_1 i) (by decide) rfl (fun ls51 hl52 => ?_)
                      clear hl50
                      refine lv_goto (tgt := 59) hx hb dX7_best_152 (by decide) ?_
                      exact ih (i + 1) f918 (nI i) (by omega) ⟨p19, p20, p21, p22, p23, p24, p25, p26, p27, p28, p29, (Or.inr ⟨by omega, by rw [h0]; rfl⟩)⟩ _ _ _ Z46 (lv_sub hl52 [0, 1, 2, 4, 5, 6, 7] rfl)
                  | succ t iht =>
                      intro ht vf v2 v5 v6 v7 hin H53 locs54 ls55 Z56 hl57
                      have hl58 : lv_has ls55 9 [(7, .int (nI (zz_pw (t + 1)))), (6, .int (nI i)), (5, .int 0), (4, .int (-1)), (3, .int 1), (0, .ref mo), (1, .int 1), (2, .int what)] := hl57
                      clear hl57
                      refine lv_iload hx hb dX7_best_70 (lv_at hl58 0 rfl) ?_
                      refine lv_if_le (tgt := 117) hx hb dX7_best_72 (by decide) (fun h => absurd h (nI_nle (zz_pwP t (by omega)).1 (zz_pwP t (by omega)).2)) (fun _ => ?_)
                      refine lv_iload hx hb dX7_best_75 (lv_at hl58 1 rfl) ?_
                      refine lv_iload hx hb dX7_best_77 (lv_at hl58 0 rfl) ?_
                      refine lv_idiv hx hb dX7_best_79 (nI_ne0 (zz_pwP t (by omega)).1 (zz_pwP t (by omega)).2) ?_
                      refine lv_iconst (v := 3) hx hb dX7_best_80 (by decide) ?_
                      refine lv_irem hx hb dX7_best_81 (by decide) ?_
                      refine lv_topi (fun y30 ey31 => ?_)
                      refine lv_istore (lv' := [(8, .int y30), (7, .int (nI (zz_pw (t + 1)))), (6, .int (nI i)), (5, .int 0), (4, .int (-1)), (3, .int 1), (0, .ref mo), (1, .int 1), (2, .int what)]) hx hb dX7_best_82 hl58 (by decide) rfl (fun ls59 hl60 => ?_)
                      clear hl58
                      refine lv_aload_n hx hb dX7_best_84 rfl (lv_at hl60 6 rfl) ?_
                      refine lv_iload hx hb dX7_best_85 (lv_at hl60 0 rfl) ?_
                      refine lv_if_ne (tgt := 94) hx hb dX7_best_87 (by decide) (fun b32 => ?_) (fun b32 => ?_)
                      · refine lv_iload hx hb dX7_best_94 (lv_at hl60 0 rfl) ?_
                        refine lv_iconst (v := 1) hx hb dX7_best_96 (by decide) ?_
                        refine lv_icmp_ne (tgt := 104) hx hb dX7_best_97 (by decide) (fun b33 => ?_) (fun b33 => ?_)
                        · refine lv_iconst (v := 1) hx hb dX7_best_104 (by decide) ?_
                          refine zz_cv (WC := [(mo, .inr (7, [.ref ms, .ref mi, .ref ma, .int 0, .ref mts, .ref mtz, .ref mtn, .ref mh, .ref mhn, .ref mhw, .ref mhz, .ref mhr, .ref mcl, .ref mtp, .int 0, .int 0, .int 0, .int 0, .int 0, .int 0, .int 0, .int 0, .int 0, .int 0, .int 0, .ref mna, .ref mpi, .ref mca, .ref mwa, .int 0, .ref mrd])), (ms, .inl (kms, 3047, .inl vf))]) (TC := [(kms, .int)]) (WR := [(mcl, .inl (kcl, 47, .inl c913))]) (TR := [(kcl, .int)]) (k := 0) (n := 0) Z56 [0, 1] [2] [0] [1] rfl rfl (by decide +kernel) (by decide +kernel) (by decide +kernel) rfl rfl (fun Zc => va_runV (As := [.int 1]) (rest := []) X (c7_goesOnBy l D mo ms mi ma mts mtz mtn mh mhn mhw mhz mhr mcl mtp mna mpi mca mwa mrd 0 0 0 0 0 0 0 0 0 0 0 0 0 kms vf 0 v2 0 0 v5 v6 v7 3 10 0 1 hin.1 hin.2.1 hin.2.2.1 hin.2.2.2.1 hin.2.2.2.2.1 hin.2.2.2.2.2.1 hin.2.2.2.2.2.2.1 hin.2.2.2.2.2.2.2.1 hin.2.2.2.2.2.2.2.2.1 hin.2.2.2.2.2.2.2.2.2.1 hin.2.2.2.2.2.2.2.2.2.2 H53.size) (cwV 1 hts gX7_best_X7_goesOnBy rfl rfl rfl ⟨rfl, zh_X7_goesOnBy⟩ ⟨Nat.le_of_ble_eq_true rfl, Nat.le_of_ble_eq_true rfl⟩) (zz_pV (ci := 7) Zc 0 rfl rfl) rfl rfl hl60.1 rfl (lv_room (Nat.le_of_ble_eq_true rfl)) dX7_best_105 ⟨Nat.le_of_ble_eq_true rfl, Nat.le_of_ble_eq_true rfl⟩) rfl rfl (fun u34 H61 locs62 hw35 Z63 => ?_)
                          clear Z56
                          obtain ⟨f937, F938, T939, Z940⟩ := u34
                          try dsimp only at hw35 Z63
                          obtain ⟨⟨p41, p42, p43, p44, p45, p46, p47, p48, p49, p50, p51⟩, hx52⟩ := hw35
                          obtain ⟨rfl, rfl, rfl⟩ := hx52
                          have Z64 : zz_S D A s [(mcl, .inl (kcl, 47, .inl c913)), (mo, .inr (7, [.ref ms, .ref mi, .ref ma, .int 0, .ref mts, .ref mtz, .ref mtn, .ref mh, .ref mhn, .ref mhw, .ref mhz, .ref mhr, .ref mcl, .ref mtp, .int 0, .int 0, .int 0, .int 0, .int 0, .int 0, .int 0, .int 0, .int 0, .int 0, .int 0, .ref mna, .ref mpi, .ref mca, .ref mwa, .int 0, .ref mrd])), (ms, .inl (kms, 3047, .inl f937))] [(kcl, .int), (kms, .int)] H61 locs62 := Z63
                          clear Z63
                          refine lv_iload hx hb dX7_best_108 (lv_at hl60 1 rfl) ?_
                          refine lv_iconst (v := 3) hx hb dX7_best_110 (by decide) ?_
                          refine lv_idiv hx hb dX7_best_111 (by decide) ?_
                          refine zz_v (v := nI (zz_pw t)) (zz_pw3 t (by omega)) ?_
                          refine lv_istore (lv' := [(7, .int (nI (zz_pw t))), (8, .int y30), (6, .int (nI i)), (5, .int 0), (4, .int (-1)), (3, .int 1), (0, .ref mo), (1, .int 1), (2, .int what)]) hx hb dX7_best_112 hl60 (by decide) rfl (fun ls65 hl66 => ?_)
                          clear hl60
                          refine lv_goto (tgt := 70) hx hb dX7_best_114 (by decide) ?_
                          exact iht (by omega) f937 (v2 + 1) (zz_bT v5 v6 10) (zz_bZ v6 10) (zz_mF v7 1 v6 3 10) ⟨p41, p42, p43, p44, p45, p46, p47, p48, p49, p50, p51⟩ _ _ _ Z64 (lv_sub hl66 [0, 2, 3, 4, 5, 6, 7, 8] rfl)
                        · refine lv_iconst (v := (-1)) hx hb dX7_best_100 (by decide) ?_
                          refine lv_goto (tgt := 105) hx hb dX7_best_101 (by decide) ?_
                          refine zz_cv (WC := [(mo, .inr (7, [.ref ms, .ref mi, .ref ma, .int 0, .ref mts, .ref mtz, .ref mtn, .ref mh, .ref mhn, .ref mhw, .ref mhz, .ref mhr, .ref mcl, .ref mtp, .int 0, .int 0, .int 0, .int 0, .int 0, .int 0, .int 0, .int 0, .int 0, .int 0, .int 0, .ref mna, .ref mpi, .ref mca, .ref mwa, .int 0, .ref mrd])), (ms, .inl (kms, 3047, .inl vf))]) (TC := [(kms, .int)]) (WR := [(mcl, .inl (kcl, 47, .inl c913))]) (TR := [(kcl, .int)]) (k := 0) (n := 0) Z56 [0, 1] [2] [0] [1] rfl rfl (by decide +kernel) (by decide +kernel) (by decide +kernel) rfl rfl (fun Zc => va_runV (As := [.int (-1)]) (rest := []) X (c7_goesOnBy l D mo ms mi ma mts mtz mtn mh mhn mhw mhz mhr mcl mtp mna mpi mca mwa mrd 0 0 0 0 0 0 0 0 0 0 0 0 0 kms vf 0 v2 0 0 v5 v6 v7 3 10 0 (-1) hin.1 hin.2.1 hin.2.2.1 hin.2.2.2.1 hin.2.2.2.2.1 hin.2.2.2.2.2.1 hin.2.2.2.2.2.2.1 hin.2.2.2.2.2.2.2.1 hin.2.2.2.2.2.2.2.2.1 hin.2.2.2.2.2.2.2.2.2.1 hin.2.2.2.2.2.2.2.2.2.2 H53.size) (cwV 1 hts gX7_best_X7_goesOnBy rfl rfl rfl ⟨rfl, zh_X7_goesOnBy⟩ ⟨Nat.le_of_ble_eq_true rfl, Nat.le_of_ble_eq_true rfl⟩) (zz_pV (ci := 7) Zc 0 rfl rfl) rfl rfl hl60.1 rfl (lv_room (Nat.le_of_ble_eq_true rfl)) dX7_best_105 ⟨Nat.le_of_ble_eq_true rfl, Nat.le_of_ble_eq_true rfl⟩) rfl rfl (fun u53 H67 locs68 hw54 Z69 => ?_)
                          clear Z56
                          obtain ⟨f956, F957, T958, Z959⟩ := u53
                          try dsimp only at hw54 Z69
                          obtain ⟨⟨p60, p61, p62, p63, p64, p65, p66, p67, p68, p69, p70⟩, hx71⟩ := hw54
                          obtain ⟨rfl, rfl, rfl⟩ := hx71
                          have Z70 : zz_S D A s [(mcl, .inl (kcl, 47, .inl c913)), (mo, .inr (7, [.ref ms, .ref mi, .ref ma, .int 0, .ref mts, .ref mtz, .ref mtn, .ref mh, .ref mhn, .ref mhw, .ref mhz, .ref mhr, .ref mcl, .ref mtp, .int 0, .int 0, .int 0, .int 0, .int 0, .int 0, .int 0, .int 0, .int 0, .int 0, .int 0, .ref mna, .ref mpi, .ref mca, .ref mwa, .int 0, .ref mrd])), (ms, .inl (kms, 3047, .inl f956))] [(kcl, .int), (kms, .int)] H67 locs68 := Z69
                          clear Z69
                          refine lv_iload hx hb dX7_best_108 (lv_at hl60 1 rfl) ?_
                          refine lv_iconst (v := 3) hx hb dX7_best_110 (by decide) ?_
                          refine lv_idiv hx hb dX7_best_111 (by decide) ?_
                          refine zz_v (v := nI (zz_pw t)) (zz_pw3 t (by omega)) ?_
                          refine lv_istore (lv' := [(7, .int (nI (zz_pw t))), (8, .int y30), (6, .int (nI i)), (5, .int 0), (4, .int (-1)), (3, .int 1), (0, .ref mo), (1, .int 1), (2, .int what)]) hx hb dX7_best_112 hl60 (by decide) rfl (fun ls71 hl72 => ?_)
                          clear hl60
                          refine lv_goto (tgt := 70) hx hb dX7_best_114 (by decide) ?_
                          exact iht (by omega) f956 (v2 + 1) (zz_bT v5 v6 10) (zz_bZ v6 10) (zz_mF v7 (-1) v6 3 10) ⟨p60, p61, p62, p63, p64, p65, p66, p67, p68, p69, p70⟩ _ _ _ Z70 (lv_sub hl72 [0, 2, 3, 4, 5, 6, 7, 8] rfl)
                      · refine lv_iconst (v := 0) hx hb dX7_best_90 (by decide) ?_
                        refine lv_goto (tgt := 105) hx hb dX7_best_91 (by decide) ?_
                        refine zz_cv (WC := [(mo, .inr (7, [.ref ms, .ref mi, .ref ma, .int 0, .ref mts, .ref mtz, .ref mtn, .ref mh, .ref mhn, .ref mhw, .ref mhz, .ref mhr, .ref mcl, .ref mtp, .int 0, .int 0, .int 0, .int 0, .int 0, .int 0, .int 0, .int 0, .int 0, .int 0, .int 0, .ref mna, .ref mpi, .ref mca, .ref mwa, .int 0, .ref mrd])), (ms, .inl (kms, 3047, .inl vf))]) (TC := [(kms, .int)]) (WR := [(mcl, .inl (kcl, 47, .inl c913))]) (TR := [(kcl, .int)]) (k := 0) (n := 0) Z56 [0, 1] [2] [0] [1] rfl rfl (by decide +kernel) (by decide +kernel) (by decide +kernel) rfl rfl (fun Zc => va_runV (As := [.int 0]) (rest := []) X (c7_goesOnBy l D mo ms mi ma mts mtz mtn mh mhn mhw mhz mhr mcl mtp mna mpi mca mwa mrd 0 0 0 0 0 0 0 0 0 0 0 0 0 kms vf 0 v2 0 0 v5 v6 v7 3 10 0 0 hin.1 hin.2.1 hin.2.2.1 hin.2.2.2.1 hin.2.2.2.2.1 hin.2.2.2.2.2.1 hin.2.2.2.2.2.2.1 hin.2.2.2.2.2.2.2.1 hin.2.2.2.2.2.2.2.2.1 hin.2.2.2.2.2.2.2.2.2.1 hin.2.2.2.2.2.2.2.2.2.2 H53.size) (cwV 1 hts gX7_best_X7_goesOnBy rfl rfl rfl ⟨rfl, zh_X7_goesOnBy⟩ ⟨Nat.le_of_ble_eq_true rfl, Nat.le_of_ble_eq_true rfl⟩) (zz_pV (ci := 7) Zc 0 rfl rfl) rfl rfl hl60.1 rfl (lv_room (Nat.le_of_ble_eq_true rfl)) dX7_best_105 ⟨Nat.le_of_ble_eq_true rfl, Nat.le_of_ble_eq_true rfl⟩) rfl rfl (fun u72 H73 locs74 hw73 Z75 => ?_)
                        clear Z56
                        obtain ⟨f975, F976, T977, Z978⟩ := u72
                        try dsimp only at hw73 Z75
                        obtain ⟨⟨p79, p80, p81, p82, p83, p84, p85, p86, p87, p88, p89⟩, hx90⟩ := hw73
                        obtain ⟨rfl, rfl, rfl⟩ := hx90
                        have Z76 : zz_S D A s [(mcl, .inl (kcl, 47, .inl c913)), (mo, .inr (7, [.ref ms, .ref mi, .ref ma, .int 0, .ref mts, .ref mtz, .ref mtn, .ref mh, .ref mhn, .ref mhw, .ref mhz, .ref mhr, .ref mcl, .ref mtp, .int 0, .int 0, .int 0, .int 0, .int 0, .int 0, .int 0, .int 0, .int 0, .int 0, .int 0, .ref mna, .ref mpi, .ref mca, .ref mwa, .int 0, .ref mrd])), (ms, .inl (kms, 3047, .inl f975))] [(kcl, .int), (kms, .int)] H73 locs74 := Z75
                        clear Z75
                        refine lv_iload hx hb dX7_best_108 (lv_at hl60 1 rfl) ?_
                        refine lv_iconst (v := 3) hx hb dX7_best_110 (by decide) ?_
                        refine lv_idiv hx hb dX7_best_111 (by decide) ?_
                        refine zz_v (v := nI (zz_pw t)) (zz_pw3 t (by omega)) ?_
                        refine lv_istore (lv' := [(7, .int (nI (zz_pw t))), (8, .int y30), (6, .int (nI i)), (5, .int 0), (4, .int (-1)), (3, .int 1), (0, .ref mo), (1, .int 1), (2, .int what)]) hx hb dX7_best_112 hl60 (by decide) rfl (fun ls77 hl78 => ?_)
                        clear hl60
                        refine lv_goto (tgt := 70) hx hb dX7_best_114 (by decide) ?_
                        exact iht (by omega) f975 (v2 + 1) (zz_bT v5 v6 10) (zz_bZ v6 10) (zz_mF v7 0 v6 3 10) ⟨p79, p80, p81, p82, p83, p84, p85, p86, p87, p88, p89⟩ _ _ _ Z76 (lv_sub hl78 [0, 2, 3, 4, 5, 6, 7, 8] rfl)
                exact inner 1 (by decide) vf 0 0 1 0 ⟨hinv.1, hinv.2.1, hinv.2.2.1, hinv.2.2.2.1, hinv.2.2.2.2.1, hinv.2.2.2.2.2.1, hinv.2.2.2.2.2.2.1, hinv.2.2.2.2.2.2.2.1, hinv.2.2.2.2.2.2.2.2.1, hinv.2.2.2.2.2.2.2.2.2.1, hinv.2.2.2.2.2.2.2.2.2.2.1⟩ _ _ _ Z31 hl34
              · subst hv
                refine lv_iload hx hb dX7_best_59 (lv_at hl32 0 rfl) ?_
                refine lv_iconst (v := 3) hx hb dX7_best_61 (by decide) ?_
                refine lv_iload_n hx hb dX7_best_62 rfl (lv_at hl32 3 rfl) ?_
                refine lv_imul hx hb dX7_best_63 ?_
                refine zz_v (v := 3) (by decide) ?_
                refine lv_icmp_ge (tgt := 155) hx hb dX7_best_64 (by decide) (fun h => absurd h (nI_ge (a := i) (b := 3) (by omega) (by omega))) (fun _ => ?_)
                refine lv_iload_n hx hb dX7_best_67 rfl (lv_at hl32 3 rfl) ?_
                refine lv_istore (lv' := [(7, .int 1), (6, .int (nI i)), (5, .int 0), (4, .int 0), (3, .int 1), (0, .ref mo), (1, .int 1), (2, .int what)]) hx hb dX7_best_68 hl32 (by decide) rfl (fun ls79 hl80 => ?_)
                clear hl32
                have inner : ∀ (t : Nat), t ≤ 5 → ∀ (vf : Nat → Int32) (v2 v5 v6 v7 : Int32), vf 0 = 0 ∧ vf 1 = 0 ∧ vf 2 = v2 ∧ vf 3 = 0 ∧ vf 4 = 0 ∧ vf 5 = v5 ∧ vf 6 = v6 ∧ vf 7 = v7 ∧ vf 8 = 3 ∧ vf 9 = 10 ∧ vf 10 = 0 → ∀ (Hq : Heap) (Lq : List Loc) (lq : Array Slot), zz_S D A s [(mo, .inr (7, [.ref ms, .ref mi, .ref ma, .int 0, .ref mts, .ref mtz, .ref mtn, .ref mh, .ref mhn, .ref mhw, .ref mhz, .ref mhr, .ref mcl, .ref mtp, .int 0, .int 0, .int 0, .int 0, .int 0, .int 0, .int 0, .int 0, .int 0, .int 0, .int 0, .ref mna, .ref mpi, .ref mca, .ref mwa, .int 0, .ref mrd])), (ms, .inl (kms, 3047, .inl vf)), (mcl, .inl (kcl, 47, .inl c913))] [(kms, .int), (kcl, .int)] Hq Lq → lv_has lq 9 [(7, .int (nI (zz_pw t))), (6, .int (nI i)), (5, .int 0), (4, .int 0), (3, .int 1), (0, .ref mo), (1, .int 1), (2, .int what)] → W p l e (headSpec wsX7_best { frames := 3, cells := 0, slots := 0, locals := 64 }).room s m (List.toArray [.ref mo, .int 1, .int what]) below meth c Hq Lq 0 0 (MQ below (va_Qi (fun (r : Int32) (u : Unit) => r = sp_best 1 what) (fun u t => zz_B D A ((fun (u : Unit) => []) u) ((fun (u : Unit) => []) u) t) A) (List.toArray [.ref mo, .int 1, .int what]) s 0 0 A) (F0 m 70 lq []) := by
                  intro t
                  induction t with
                  | zero =>
                      intro ht vf v2 v5 v6 v7 hin H81 locs82 ls83 Z84 hl85
                      have hl86 : lv_has ls83 9 [(7, .int 0), (6, .int (nI i)), (5, .int 0), (4, .int 0), (3, .int 1), (0, .ref mo), (1, .int 1), (2, .int what)] := hl85
                      clear hl85
                      refine lv_iload hx hb dX7_best_70 (lv_at hl86 0 rfl) ?_
                      refine lv_if_le (tgt := 117) hx hb dX7_best_72 (by decide) (fun _ => ?_) (fun h => absurd (by decide) h)
                      refine lv_aload_n hx hb dX7_best_117 rfl (lv_at hl86 5 rfl) ?_
                      refine zz_get X Z84 0 rfl rfl (fun w h => List.mem_cons_of_mem _ (List.mem_append_right _ h)) 0 rfl (zz_m 3 rfl) rfl dX7_best_118 ?_
                      refine lv_iconst (v := 4) hx hb dX7_best_121 (by decide) ?_
                      refine zz_ild X Z84 1 0 rfl rfl (zz_in 4 3047 rfl) dX7_best_122 ?_
                      refine zz_v (v := 0) hin.2.2.2.2.1 ?_
                      refine lv_istore (lv' := [(7, .int 0), (6, .int (nI i)), (5, .int 0), (4, .int 0), (3, .int 1), (0, .ref mo), (1, .int 1), (2, .int what)]) hx hb dX7_best_123 hl86 (by decide) rfl (fun ls87 hl88 => ?_)
                      clear hl86
                      refine lv_aload_n hx hb dX7_best_125 rfl (lv_at hl88 5 rfl) ?_
                      refine zz_cv (WC := [(mo, .inr (7, [.ref ms, .ref mi, .ref ma, .int 0, .ref mts, .ref mtz, .ref mtn, .ref mh, .ref mhn, .ref mhw, .ref mhz, .ref mhr, .ref mcl, .ref mtp, .int 0, .int 0, .int 0, .int 0, .int 0, .int 0, .int 0, .int 0, .int 0, .int 0, .int 0, .ref mna, .ref mpi, .ref mca, .ref mwa, .int 0, .ref mrd])), (ms, .inl (kms, 3047, .inl vf)), (mcl, .inl (kcl, 47, .inl c913))]) (TC := [(kms, .int), (kcl, .int)]) (WR := []) (TR := []) (k := 0) (n := 0) Z84 [0, 1, 2] [] [0, 1] [] rfl rfl (by decide +kernel) (by decide +kernel) (by decide +kernel) rfl rfl (fun Zc => va_runV (As := []) (rest := []) X (c7_laysBack l D mo ms mi ma mts mtz mtn mh mhn mhw mhz mhr mcl mtp mna mpi mca mwa mrd 0 0 0 0 0 0 0 0 0 0 0 0 0 kms vf kcl c913 H81.size) (cwV 0 hts gX7_best_X7_laysBack rfl rfl rfl ⟨rfl, zh_X7_laysBack⟩ ⟨Nat.le_of_ble_eq_true rfl, Nat.le_of_ble_eq_true rfl⟩) (zz_pV (ci := 7) Zc 0 rfl rfl) rfl rfl hl88.1 rfl (lv_room (Nat.le_of_ble_eq_true rfl)) dX7_best_126 ⟨Nat.le_of_ble_eq_true rfl, Nat.le_of_ble_eq_true rfl⟩) rfl rfl (fun u91 H89 locs90 hw92 Z91 => ?_)
                      clear Z84
                      obtain ⟨f994, rfl⟩ : ∃ z, z = u91 := ⟨_, rfl⟩
                      try dsimp only at hw92 Z91
                      have Z92 : zz_S D A s [(mo, .inr (7, [.ref ms, .ref mi, .ref ma, .int 0, .ref mts, .ref mtz, .ref mtn, .ref mh, .ref mhn, .ref mhw, .ref mhz, .ref mhr, .ref mcl, .ref mtp, .int 0, .int 0, .int 0, .int 0, .int 0, .int 0, .int 0, .int 0, .int 0, .int 0, .int 0, .ref mna, .ref mpi, .ref mca, .ref mwa, .int 0, .ref mrd])), (ms, .inl (kms, 3047, .inl f994)), (mcl, .inl (kcl, 47, .inl c913))] [(kms, .int), (kcl, .int)] H89 locs90 := Z91
                      clear Z91
                      have p95 : f994 0 = 0 := (hw92 0 (by decide)).trans ((hw11 0 (by decide)).trans af_0)
                      have p96 : f994 1 = 0 := (hw92 1 (by decide)).trans ((hw11 1 (by decide)).trans af_1)
                      have p97 : f994 2 = 0 := (hw92 2 (by decide)).trans ((hw11 2 (by decide)).trans af_2)
                      have p98 : f994 3 = 0 := (hw92 3 (by decide)).trans ((hw11 3 (by decide)).trans af_3)
                      have p99 : f994 4 = 0 := (hw92 4 (by decide)).trans ((hw11 4 (by decide)).trans af_4)
                      have p100 : f994 5 = 0 := (hw92 5 (by decide)).trans ((hw11 5 (by decide)).trans af_5)
                      have p101 : f994 6 = 1 := (hw92 6 (by decide)).trans ((hw11 6 (by decide)).trans af_6)
                      have p102 : f994 7 = 0 := (hw92 7 (by decide)).trans ((hw11 7 (by decide)).trans af_7)
                      have p103 : f994 8 = 3 := (hw92 8 (by decide)).trans ((hw11 8 (by decide)).trans af_8)
                      have p104 : f994 9 = 10 := (hw92 9 (by decide)).trans ((hw11 9 (by decide)).trans af_9)
                      have p105 : f994 10 = 0 := (hw92 10 (by decide)).trans ((hw11 10 (by decide)).trans af_10)
                      refine lv_iload hx hb dX7_best_129 (lv_at hl88 3 rfl) ?_
                      refine lv_if_lt (tgt := 141) hx hb dX7_best_131 (by decide) (fun h => absurd h (by decide)) (fun _ => ?_)
                      refine lv_iload hx hb dX7_best_134 (lv_at hl88 0 rfl) ?_
                      refine lv_iload hx hb dX7_best_136 (lv_at hl88 2 rfl) ?_
                      refine lv_icmp_ge (tgt := 149) hx hb dX7_best_138 (by decide) (fun _ => ?_) (fun h => absurd (by decide) h)
                      refine lv_iinc (v := nI (i + 1)) (lv' := [(6, .int (nI (i + 1))), (7, .int 0), (5, .int 0), (4, .int 0), (3, .int 1), (0, .ref mo), (1, .int 1), (2, .int what)]) hx hb dX7_best_149 hl88 (k := 1) rfl (nI_1 i) (by decide) rfl (fun ls93 hl94 => ?_)
                      clear hl88
                      refine lv_goto (tgt := 59) hx hb dX7_best_152 (by decide) ?_
                      exact ih (i + 1) f994 0 (by omega) ⟨p95, p96, p97, p98, p99, p100, p101, p102, p103, p104, p105, (Or.inr ⟨by omega, rfl⟩)⟩ _ _ _ Z92 (lv_sub hl94 [0, 2, 3, 4, 5, 6, 7] rfl)
                  | succ t iht =>
                      intro ht vf v2 v5 v6 v7 hin H95 locs96 ls97 Z98 hl99
                      have hl100 : lv_has ls97 9 [(7, .int (nI (zz_pw (t + 1)))), (6, .int (nI i)), (5, .int 0), (4, .int 0), (3, .int 1), (0, .ref mo), (1, .int 1), (2, .int what)] := hl99
                      clear hl99
                      refine lv_iload hx hb dX7_best_70 (lv_at hl100 0 rfl) ?_
                      refine lv_if_le (tgt := 117) hx hb dX7_best_72 (by decide) (fun h => absurd h (nI_nle (zz_pwP t (by omega)).1 (zz_pwP t (by omega)).2)) (fun _ => ?_)
                      refine lv_iload hx hb dX7_best_75 (lv_at hl100 1 rfl) ?_
                      refine lv_iload hx hb dX7_best_77 (lv_at hl100 0 rfl) ?_
                      refine lv_idiv hx hb dX7_best_79 (nI_ne0 (zz_pwP t (by omega)).1 (zz_pwP t (by omega)).2) ?_
                      refine lv_iconst (v := 3) hx hb dX7_best_80 (by decide) ?_
                      refine lv_irem hx hb dX7_best_81 (by decide) ?_
                      refine lv_topi (fun y106 ey107 => ?_)
                      refine lv_istore (lv' := [(8, .int y106), (7, .int (nI (zz_pw (t + 1)))), (6, .int (nI i)), (5, .int 0), (4, .int 0), (3, .int 1), (0, .ref mo), (1, .int 1), (2, .int what)]) hx hb dX7_best_82 hl100 (by decide) rfl (fun ls101 hl102 => ?_)
                      clear hl100
                      refine lv_aload_n hx hb dX7_best_84 rfl (lv_at hl102 6 rfl) ?_
                      refine lv_iload hx hb dX7_best_85 (lv_at hl102 0 rfl) ?_
                      refine lv_if_ne (tgt := 94) hx hb dX7_best_87 (by decide) (fun b108 => ?_) (fun b108 => ?_)
                      · refine lv_iload hx hb dX7_best_94 (lv_at hl102 0 rfl) ?_
                        refine lv_iconst (v := 1) hx hb dX7_best_96 (by decide) ?_
                        refine lv_icmp_ne (tgt := 104) hx hb dX7_best_97 (by decide) (fun b109 => ?_) (fun b109 => ?_)
                        · refine lv_iconst (v := 1) hx hb dX7_best_104 (by decide) ?_
                          refine zz_cv (WC := [(mo, .inr (7, [.ref ms, .ref mi, .ref ma, .int 0, .ref mts, .ref mtz, .ref mtn, .ref mh, .ref mhn, .ref mhw, .ref mhz, .ref mhr, .ref mcl, .ref mtp, .int 0, .int 0, .int 0, .int 0, .int 0, .int 0, .int 0, .int 0, .int 0, .int 0, .int 0, .ref mna, .ref mpi, .ref mca, .ref mwa, .int 0, .ref mrd])), (ms, .inl (kms, 3047, .inl vf))]) (TC := [(kms, .int)]) (WR := [(mcl, .inl (kcl, 47, .inl c913))]) (TR := [(kcl, .int)]) (k := 0) (n := 0) Z98 [0, 1] [2] [0] [1] rfl rfl (by decide +kernel) (by decide +kernel) (by decide +kernel) rfl rfl (fun Zc => va_runV (As := [.int 1]) (rest := []) X (c7_goesOnBy l D mo ms mi ma mts mtz mtn mh mhn mhw mhz mhr mcl mtp mna mpi mca mwa mrd 0 0 0 0 0 0 0 0 0 0 0 0 0 kms vf 0 v2 0 0 v5 v6 v7 3 10 0 1 hin.1 hin.2.1 hin.2.2.1 hin.2.2.2.1 hin.2.2.2.2.1 hin.2.2.2.2.2.1 hin.2.2.2.2.2.2.1 hin.2.2.2.2.2.2.2.1 hin.2.2.2.2.2.2.2.2.1 hin.2.2.2.2.2.2.2.2.2.1 hin.2.2.2.2.2.2.2.2.2.2 H95.size) (cwV 1 hts gX7_best_X7_goesOnBy rfl rfl rfl ⟨rfl, zh_X7_goesOnBy⟩ ⟨Nat.le_of_ble_eq_true rfl, Nat.le_of_ble_eq_true rfl⟩) (zz_pV (ci := 7) Zc 0 rfl rfl) rfl rfl hl102.1 rfl (lv_room (Nat.le_of_ble_eq_true rfl)) dX7_best_105 ⟨Nat.le_of_ble_eq_true rfl, Nat.le_of_ble_eq_true rfl⟩) rfl rfl (fun u110 H103 locs104 hw111 Z105 => ?_)
                          clear Z98
                          obtain ⟨f9113, F9114, T9115, Z9116⟩ := u110
                          try dsimp only at hw111 Z105
                          obtain ⟨⟨p117, p118, p119, p120, p121, p122, p123, p124, p125, p126, p127⟩, hx128⟩ := hw111
                          obtain ⟨rfl, rfl, rfl⟩ := hx128
                          have Z106 : zz_S D A s [(mcl, .inl (kcl, 47, .inl c913)), (mo, .inr (7, [.ref ms, .ref mi, .ref ma, .int 0, .ref mts, .ref mtz, .ref mtn, .ref mh, .ref mhn, .ref mhw, .ref mhz, .ref mhr, .ref mcl, .ref mtp, .int 0, .int 0, .int 0, .int 0, .int 0, .int 0, .int 0, .int 0, .int 0, .int 0, .int 0, .ref mna, .ref mpi, .ref mca, .ref mwa, .int 0, .ref mrd])), (ms, .inl (kms, 3047, .inl f9113))] [(kcl, .int), (kms, .int)] H103 locs104 := Z105
                          clear Z105
                          refine lv_iload hx hb dX7_best_108 (lv_at hl102 1 rfl) ?_
                          refine lv_iconst (v := 3) hx hb dX7_best_110 (by decide) ?_
                          refine lv_idiv hx hb dX7_best_111 (by decide) ?_
                          refine zz_v (v := nI (zz_pw t)) (zz_pw3 t (by omega)) ?_
                          refine lv_istore (lv' := [(7, .int (nI (zz_pw t))), (8, .int y106), (6, .int (nI i)), (5, .int 0), (4, .int 0), (3, .int 1), (0, .ref mo), (1, .int 1), (2, .int what)]) hx hb dX7_best_112 hl102 (by decide) rfl (fun ls107 hl108 => ?_)
                          clear hl102
                          refine lv_goto (tgt := 70) hx hb dX7_best_114 (by decide) ?_
                          exact iht (by omega) f9113 (v2 + 1) (zz_bT v5 v6 10) (zz_bZ v6 10) (zz_mF v7 1 v6 3 10) ⟨p117, p118, p119, p120, p121, p122, p123, p124, p125, p126, p127⟩ _ _ _ Z106 (lv_sub hl108 [0, 2, 3, 4, 5, 6, 7, 8] rfl)
                        · refine lv_iconst (v := (-1)) hx hb dX7_best_100 (by decide) ?_
                          refine lv_goto (tgt := 105) hx hb dX7_best_101 (by decide) ?_
                          refine zz_cv (WC := [(mo, .inr (7, [.ref ms, .ref mi, .ref ma, .int 0, .ref mts, .ref mtz, .ref mtn, .ref mh, .ref mhn, .ref mhw, .ref mhz, .ref mhr, .ref mcl, .ref mtp, .int 0, .int 0, .int 0, .int 0, .int 0, .int 0, .int 0, .int 0, .int 0, .int 0, .int 0, .ref mna, .ref mpi, .ref mca, .ref mwa, .int 0, .ref mrd])), (ms, .inl (kms, 3047, .inl vf))]) (TC := [(kms, .int)]) (WR := [(mcl, .inl (kcl, 47, .inl c913))]) (TR := [(kcl, .int)]) (k := 0) (n := 0) Z98 [0, 1] [2] [0] [1] rfl rfl (by decide +kernel) (by decide +kernel) (by decide +kernel) rfl rfl (fun Zc => va_runV (As := [.int (-1)]) (rest := []) X (c7_goesOnBy l D mo ms mi ma mts mtz mtn mh mhn mhw mhz mhr mcl mtp mna mpi mca mwa mrd 0 0 0 0 0 0 0 0 0 0 0 0 0 kms vf 0 v2 0 0 v5 v6 v7 3 10 0 (-1) hin.1 hin.2.1 hin.2.2.1 hin.2.2.2.1 hin.2.2.2.2.1 hin.2.2.2.2.2.1 hin.2.2.2.2.2.2.1 hin.2.2.2.2.2.2.2.1 hin.2.2.2.2.2.2.2.2.1 hin.2.2.2.2.2.2.2.2.2.1 hin.2.2.2.2.2.2.2.2.2.2 H95.size) (cwV 1 hts gX7_best_X7_goesOnBy rfl rfl rfl ⟨rfl, zh_X7_goesOnBy⟩ ⟨Nat.le_of_ble_eq_true rfl, Nat.le_of_ble_eq_true rfl⟩) (zz_pV (ci := 7) Zc 0 rfl rfl) rfl rfl hl102.1 rfl (lv_room (Nat.le_of_ble_eq_true rfl)) dX7_best_105 ⟨Nat.le_of_ble_eq_true rfl, Nat.le_of_ble_eq_true rfl⟩) rfl rfl (fun u129 H109 locs110 hw130 Z111 => ?_)
                          clear Z98
                          obtain ⟨f9132, F9133, T9134, Z9135⟩ := u129
                          try dsimp only at hw130 Z111
                          obtain ⟨⟨p136, p137, p138, p139, p140, p141, p142, p143, p144, p145, p146⟩, hx147⟩ := hw130
                          obtain ⟨rfl, rfl, rfl⟩ := hx147
                          have Z112 : zz_S D A s [(mcl, .inl (kcl, 47, .inl c913)), (mo, .inr (7, [.ref ms, .ref mi, .ref ma, .int 0, .ref mts, .ref mtz, .ref mtn, .ref mh, .ref mhn, .ref mhw, .ref mhz, .ref mhr, .ref mcl, .ref mtp, .int 0, .int 0, .int 0, .int 0, .int 0, .int 0, .int 0, .int 0, .int 0, .int 0, .int 0, .ref mna, .ref mpi, .ref mca, .ref mwa, .int 0, .ref mrd])), (ms, .inl (kms, 3047, .inl f9132))] [(kcl, .int), (kms, .int)] H109 locs110 := Z111
                          clear Z111
                          refine lv_iload hx hb dX7_best_108 (lv_at hl102 1 rfl) ?_
                          refine lv_iconst (v := 3) hx hb dX7_best_110 (by decide) ?_
                          refine lv_idiv hx hb dX7_best_111 (by decide) ?_
                          refine zz_v (v := nI (zz_pw t)) (zz_pw3 t (by omega)) ?_
                          refine lv_istore (lv' := [(7, .int (nI (zz_pw t))), (8, .int y106), (6, .int (nI i)), (5, .int 0), (4, .int 0), (3, .int 1), (0, .ref mo), (1, .int 1), (2, .int what)]) hx hb dX7_best_112 hl102 (by decide) rfl (fun ls113 hl114 => ?_)
                          clear hl102
                          refine lv_goto (tgt := 70) hx hb dX7_best_114 (by decide) ?_
                          exact iht (by omega) f9132 (v2 + 1) (zz_bT v5 v6 10) (zz_bZ v6 10) (zz_mF v7 (-1) v6 3 10) ⟨p136, p137, p138, p139, p140, p141, p142, p143, p144, p145, p146⟩ _ _ _ Z112 (lv_sub hl114 [0, 2, 3, 4, 5, 6, 7, 8] rfl)
                      · refine lv_iconst (v := 0) hx hb dX7_best_90 (by decide) ?_
                        refine lv_goto (tgt := 105) hx hb dX7_best_91 (by decide) ?_
                        refine zz_cv (WC := [(mo, .inr (7, [.ref ms, .ref mi, .ref ma, .int 0, .ref mts, .ref mtz, .ref mtn, .ref mh, .ref mhn, .ref mhw, .ref mhz, .ref mhr, .ref mcl, .ref mtp, .int 0, .int 0, .int 0, .int 0, .int 0, .int 0, .int 0, .int 0, .int 0, .int 0, .int 0, .ref mna, .ref mpi, .ref mca, .ref mwa, .int 0, .ref mrd])), (ms, .inl (kms, 3047, .inl vf))]) (TC := [(kms, .int)]) (WR := [(mcl, .inl (kcl, 47, .inl c913))]) (TR := [(kcl, .int)]) (k := 0) (n := 0) Z98 [0, 1] [2] [0] [1] rfl rfl (by decide +kernel) (by decide +kernel) (by decide +kernel) rfl rfl (fun Zc => va_runV (As := [.int 0]) (rest := []) X (c7_goesOnBy l D mo ms mi ma mts mtz mtn mh mhn mhw mhz mhr mcl mtp mna mpi mca mwa mrd 0 0 0 0 0 0 0 0 0 0 0 0 0 kms vf 0 v2 0 0 v5 v6 v7 3 10 0 0 hin.1 hin.2.1 hin.2.2.1 hin.2.2.2.1 hin.2.2.2.2.1 hin.2.2.2.2.2.1 hin.2.2.2.2.2.2.1 hin.2.2.2.2.2.2.2.1 hin.2.2.2.2.2.2.2.2.1 hin.2.2.2.2.2.2.2.2.2.1 hin.2.2.2.2.2.2.2.2.2.2 H95.size) (cwV 1 hts gX7_best_X7_goesOnBy rfl rfl rfl ⟨rfl, zh_X7_goesOnBy⟩ ⟨Nat.le_of_ble_eq_true rfl, Nat.le_of_ble_eq_true rfl⟩) (zz_pV (ci := 7) Zc 0 rfl rfl) rfl rfl hl102.1 rfl (lv_room (Nat.le_of_ble_eq_true rfl)) dX7_best_105 ⟨Nat.le_of_ble_eq_true rfl, Nat.le_of_ble_eq_true rfl⟩) rfl rfl (fun u148 H115 locs116 hw149 Z117 => ?_)
                        clear Z98
                        obtain ⟨f9151, F9152, T9153, Z9154⟩ := u148
                        try dsimp only at hw149 Z117
                        obtain ⟨⟨p155, p156, p157, p158, p159, p160, p161, p162, p163, p164, p165⟩, hx166⟩ := hw149
                        obtain ⟨rfl, rfl, rfl⟩ := hx166
                        have Z118 : zz_S D A s [(mcl, .inl (kcl, 47, .inl c913)), (mo, .inr (7, [.ref ms, .ref mi, .ref ma, .int 0, .ref mts, .ref mtz, .ref mtn, .ref mh, .ref mhn, .ref mhw, .ref mhz, .ref mhr, .ref mcl, .ref mtp, .int 0, .int 0, .int 0, .int 0, .int 0, .int 0, .int 0, .int 0, .int 0, .int 0, .int 0, .ref mna, .ref mpi, .ref mca, .ref mwa, .int 0, .ref mrd])), (ms, .inl (kms, 3047, .inl f9151))] [(kcl, .int), (kms, .int)] H115 locs116 := Z117
                        clear Z117
                        refine lv_iload hx hb dX7_best_108 (lv_at hl102 1 rfl) ?_
                        refine lv_iconst (v := 3) hx hb dX7_best_110 (by decide) ?_
                        refine lv_idiv hx hb dX7_best_111 (by decide) ?_
                        refine zz_v (v := nI (zz_pw t)) (zz_pw3 t (by omega)) ?_
                        refine lv_istore (lv' := [(7, .int (nI (zz_pw t))), (8, .int y106), (6, .int (nI i)), (5, .int 0), (4, .int 0), (3, .int 1), (0, .ref mo), (1, .int 1), (2, .int what)]) hx hb dX7_best_112 hl102 (by decide) rfl (fun ls119 hl120 => ?_)
                        clear hl102
                        refine lv_goto (tgt := 70) hx hb dX7_best_114 (by decide) ?_
                        exact iht (by omega) f9151 (v2 + 1) (zz_bT v5 v6 10) (zz_bZ v6 10) (zz_mF v7 0 v6 3 10) ⟨p155, p156, p157, p158, p159, p160, p161, p162, p163, p164, p165⟩ _ _ _ Z118 (lv_sub hl120 [0, 2, 3, 4, 5, 6, 7, 8] rfl)
                exact inner 1 (by decide) vf 0 0 1 0 ⟨hinv.1, hinv.2.1, hinv.2.2.1, hinv.2.2.2.1, hinv.2.2.2.2.1, hinv.2.2.2.2.2.1, hinv.2.2.2.2.2.2.1, hinv.2.2.2.2.2.2.2.1, hinv.2.2.2.2.2.2.2.2.1, hinv.2.2.2.2.2.2.2.2.2.1, hinv.2.2.2.2.2.2.2.2.2.2.1⟩ _ _ _ Z31 hl80
        exact loop 3 0 f (-1) (by omega) ⟨af_0, af_1, af_2, af_3, af_4, af_5, af_6, af_7, af_8, af_9, af_10, (Or.inl ⟨rfl, rfl⟩)⟩ _ _ _ Z16 hl22
      · refine zz_v (v := 0) (zz_wiF w9) ?_
        refine lv_if_ne (tgt := 25) hx hb dX7_best_19 (by decide) (fun h => absurd (by decide) h) (fun _ => ?_)
        refine lv_ldc (v := (-1000000001)) hx hb hown (hts _ (zz_m 2 rfl)) dX7_best_22 ?_
        exact zz_iret X hr hlk Z8 () (by simp [sp_best, w9]) [] [] (by decide +kernel) rfl rfl dX7_best_24
    · have e5 : n = 2 := e5
      subst e5
      refine zz_v (v := 1) (by decide) ?_
      refine lv_if_eq (tgt := 22) hx hb dX7_best_9 (by decide) (fun h => absurd h (by decide)) (fun _ => ?_)
      refine lv_iload_n hx hb dX7_best_12 rfl (lv_at hl 2 rfl) ?_
      refine lv_i2l (v := Int32.toInt64 what) hx hb dX7_best_13 rfl ?_
      refine lv_lconst (v := 0) hx hb dX7_best_14 (by decide) ?_
      refine zz_vl (v := Int32.toInt64 0) (by decide) ?_
      refine lv_lconst (v := 1) hx hb dX7_best_15 (by decide) ?_
      refine zz_vl (v := Int32.toInt64 1) (by decide) ?_
      refine zz_ci (WC := []) (TC := []) (WR := [(mo, .inr (7, [.ref ms, .ref mi, .ref ma, .int 0, .ref mts, .ref mtz, .ref mtn, .ref mh, .ref mhn, .ref mhw, .ref mhz, .ref mhr, .ref mcl, .ref mtp, .int 0, .int 0, .int 0, .int 0, .int 0, .int 0, .int 0, .int 0, .int 0, .int 0, .int 0, .ref mna, .ref mpi, .ref mca, .ref mwa, .int 0, .ref mrd])), (ms, .inl (kms, 3047, .inl f)), (mcl, .inl (kcl, 47, .inl cf))]) (TR := [(kms, .int), (kcl, .int)]) (k := 0) (n := 0) Z4 [] [0, 1, 2] [] [0, 1] rfl rfl (by decide +kernel) (by decide +kernel) (by decide +kernel) rfl rfl (fun Zc => va_runS (As := [.long (Int32.toInt64 what), .long (Int32.toInt64 0), .long (Int32.toInt64 1)]) (rest := []) X (c_isIn l D what 0 1 H1.size) (va_cwS 3 hts gX7_best_X7_isIn rfl rfl rfl zh_X7_isIn ⟨Nat.le_of_ble_eq_true rfl, Nat.le_of_ble_eq_true rfl⟩) (zz_pS Zc) rfl rfl hl.1 rfl (lv_room (Nat.le_of_ble_eq_true rfl)) dX7_best_16 ⟨Nat.le_of_ble_eq_true rfl, Nat.le_of_ble_eq_true rfl⟩) rfl rfl (fun r169 u167 H121 locs122 hw168 Z123 => ?_)
      clear Z4
      subst r169
      have Z124 : zz_S D A s [(mo, .inr (7, [.ref ms, .ref mi, .ref ma, .int 0, .ref mts, .ref mtz, .ref mtn, .ref mh, .ref mhn, .ref mhw, .ref mhz, .ref mhr, .ref mcl, .ref mtp, .int 0, .int 0, .int 0, .int 0, .int 0, .int 0, .int 0, .int 0, .int 0, .int 0, .int 0, .ref mna, .ref mpi, .ref mca, .ref mwa, .int 0, .ref mrd])), (ms, .inl (kms, 3047, .inl f)), (mcl, .inl (kcl, 47, .inl cf))] [(kms, .int), (kcl, .int)] H121 locs122 := Z123
      clear Z123
      by_cases w170 : 0 ≤ what ∧ what ≤ 1
      · refine zz_v (v := 1) (zz_wiT w170) ?_
        refine lv_if_ne (tgt := 25) hx hb dX7_best_19 (by decide) (fun _ => ?_) (fun h => absurd h (by decide))
        refine lv_iconst (v := 1) hx hb dX7_best_25 (by decide) ?_
        refine lv_istore_n (lv' := [(3, .int 1), (0, .ref mo), (1, .int 2), (2, .int what)]) hx hb dX7_best_26 rfl hl (by decide) rfl (fun ls125 hl126 => ?_)
        clear hl
        refine lv_iconst (v := 1) hx hb dX7_best_27 (by decide) ?_
        refine lv_istore (lv' := [(4, .int 1), (3, .int 1), (0, .ref mo), (1, .int 2), (2, .int what)]) hx hb dX7_best_28 hl126 (by decide) rfl (fun ls127 hl128 => ?_)
        clear hl126
        refine lv_iload hx hb dX7_best_30 (lv_at hl128 0 rfl) ?_
        refine lv_iload_n hx hb dX7_best_32 rfl (lv_at hl128 3 rfl) ?_
        refine lv_icmp_ge (tgt := 46) hx hb dX7_best_33 (by decide) (fun h => absurd h (by decide)) (fun _ => ?_)
        refine lv_iload_n hx hb dX7_best_36 rfl (lv_at hl128 1 rfl) ?_
        refine lv_iconst (v := 3) hx hb dX7_best_37 (by decide) ?_
        refine lv_imul hx hb dX7_best_38 ?_
        refine zz_v (v := 3) (by decide) ?_
        refine lv_istore_n (lv' := [(3, .int 3), (4, .int 1), (0, .ref mo), (1, .int 2), (2, .int what)]) hx hb dX7_best_39 rfl hl128 (by decide) rfl (fun ls129 hl130 => ?_)
        clear hl128
        refine lv_iinc (v := 2) (lv' := [(4, .int 2), (3, .int 3), (0, .ref mo), (1, .int 2), (2, .int what)]) hx hb dX7_best_40 hl130 (k := 1) rfl (by decide) (by decide) rfl (fun ls131 hl132 => ?_)
        clear hl130
        refine lv_goto (tgt := 30) hx hb dX7_best_43 (by decide) ?_
        refine lv_iload hx hb dX7_best_30 (lv_at hl132 0 rfl) ?_
        refine lv_iload_n hx hb dX7_best_32 rfl (lv_at hl132 3 rfl) ?_
        refine lv_icmp_ge (tgt := 46) hx hb dX7_best_33 (by decide) (fun _ => ?_) (fun h => absurd (by decide) h)
        refine lv_aload_n hx hb dX7_best_46 rfl (lv_at hl132 2 rfl) ?_
        refine zz_cv (WC := [(mo, .inr (7, [.ref ms, .ref mi, .ref ma, .int 0, .ref mts, .ref mtz, .ref mtn, .ref mh, .ref mhn, .ref mhw, .ref mhz, .ref mhr, .ref mcl, .ref mtp, .int 0, .int 0, .int 0, .int 0, .int 0, .int 0, .int 0, .int 0, .int 0, .int 0, .int 0, .ref mna, .ref mpi, .ref mca, .ref mwa, .int 0, .ref mrd])), (ms, .inl (kms, 3047, .inl f)), (mcl, .inl (kcl, 47, .inl cf))]) (TC := [(kms, .int), (kcl, .int)]) (WR := []) (TR := []) (k := 0) (n := 0) Z124 [0, 1, 2] [] [0, 1] [] rfl rfl (by decide +kernel) (by decide +kernel) (by decide +kernel) rfl rfl (fun Zc => va_runV (As := []) (rest := []) X (c7_laysBy l D mo ms mi ma mts mtz mtn mh mhn mhw mhz mhr mcl mtp mna mpi mca mwa mrd 0 0 0 0 0 0 0 0 0 0 0 0 0 kms f kcl cf H121.size) (cwV 0 hts gX7_best_X7_laysBy rfl rfl rfl ⟨rfl, zh_X7_laysBy⟩ ⟨Nat.le_of_ble_eq_true rfl, Nat.le_of_ble_eq_true rfl⟩) (zz_pV (ci := 7) Zc 0 rfl rfl) rfl rfl hl132.1 rfl (lv_room (Nat.le_of_ble_eq_true rfl)) dX7_best_47 ⟨Nat.le_of_ble_eq_true rfl, Nat.le_of_ble_eq_true rfl⟩) rfl rfl (fun u171 H133 locs134 hw172 Z135 => ?_)
        clear Z124
        obtain ⟨c9174, rfl⟩ : ∃ z, z = u171 := ⟨_, rfl⟩
        try dsimp only at hw172 Z135
        have Z136 : zz_S D A s [(mo, .inr (7, [.ref ms, .ref mi, .ref ma, .int 0, .ref mts, .ref mtz, .ref mtn, .ref mh, .ref mhn, .ref mhw, .ref mhz, .ref mhr, .ref mcl, .ref mtp, .int 0, .int 0, .int 0, .int 0, .int 0, .int 0, .int 0, .int 0, .int 0, .int 0, .int 0, .ref mna, .ref mpi, .ref mca, .ref mwa, .int 0, .ref mrd])), (ms, .inl (kms, 3047, .inl f)), (mcl, .inl (kcl, 47, .inl c9174))] [(kms, .int), (kcl, .int)] H133 locs134 := Z135
        clear Z135
        refine lv_iconst (v := (-1)) hx hb dX7_best_50 (by decide) ?_
        refine lv_istore (lv' := [(4, .int (-1)), (3, .int 3), (0, .ref mo), (1, .int 2), (2, .int what)]) hx hb dX7_best_51 hl132 (by decide) rfl (fun ls137 hl138 => ?_)
        clear hl132
        refine lv_iconst (v := 0) hx hb dX7_best_53 (by decide) ?_
        refine lv_istore (lv' := [(5, .int 0), (4, .int (-1)), (3, .int 3), (0, .ref mo), (1, .int 2), (2, .int what)]) hx hb dX7_best_54 hl138 (by decide) rfl (fun ls139 hl140 => ?_)
        clear hl138
        refine lv_iconst (v := 0) hx hb dX7_best_56 (by decide) ?_
        refine lv_istore (lv' := [(6, .int 0), (5, .int 0), (4, .int (-1)), (3, .int 3), (0, .ref mo), (1, .int 2), (2, .int what)]) hx hb dX7_best_57 hl140 (by decide) rfl (fun ls141 hl142 => ?_)
        clear hl140
        have loop : ∀ (k i : Nat) (vf : Nat → Int32) (vb : Int32), i + k = 9 → (vf 0 = 0 ∧ vf 1 = 0 ∧ vf 2 = 0 ∧ vf 3 = 0 ∧ vf 4 = 0 ∧ vf 5 = 0 ∧ vf 6 = 1 ∧ vf 7 = 0 ∧ vf 8 = 3 ∧ vf 9 = 10 ∧ vf 10 = 0 ∧ ((i = 0 ∧ vb = -1) ∨ (0 < i ∧ vb = 0))) → ∀ (Hq : Heap) (Lq : List Loc) (lq : Array Slot), zz_S D A s [(mo, .inr (7, [.ref ms, .ref mi, .ref ma, .int 0, .ref mts, .ref mtz, .ref mtn, .ref mh, .ref mhn, .ref mhw, .ref mhz, .ref mhr, .ref mcl, .ref mtp, .int 0, .int 0, .int 0, .int 0, .int 0, .int 0, .int 0, .int 0, .int 0, .int 0, .int 0, .ref mna, .ref mpi, .ref mca, .ref mwa, .int 0, .ref mrd])), (ms, .inl (kms, 3047, .inl vf)), (mcl, .inl (kcl, 47, .inl c9174))] [(kms, .int), (kcl, .int)] Hq Lq → lv_has lq 9 [(6, .int (nI i)), (5, .int 0), (4, .int vb), (3, .int 3), (0, .ref mo), (1, .int 2), (2, .int what)] → W p l e (headSpec wsX7_best { frames := 3, cells := 0, slots := 0, locals := 64 }).room s m (List.toArray [.ref mo, .int 2, .int what]) below meth c Hq Lq 0 0 (MQ below (va_Qi (fun (r : Int32) (u : Unit) => r = sp_best 2 what) (fun u t => zz_B D A ((fun (u : Unit) => []) u) ((fun (u : Unit) => []) u) t) A) (List.toArray [.ref mo, .int 2, .int what]) s 0 0 A) (F0 m 59 lq []) := by
          intro k
          induction k with
          | zero =>
              intro i vf vb hik hinv H143 locs144 ls145 Z146 hl147
              rcases hinv.2.2.2.2.2.2.2.2.2.2.2 with ⟨h0, hv⟩ | ⟨h0, hv⟩
              · omega
              subst hv
              refine lv_iload hx hb dX7_best_59 (lv_at hl147 0 rfl) ?_
              refine lv_iconst (v := 3) hx hb dX7_best_61 (by decide) ?_
              refine lv_iload_n hx hb dX7_best_62 rfl (lv_at hl147 3 rfl) ?_
              refine lv_imul hx hb dX7_best_63 ?_
              refine zz_v (v := 9) (by decide) ?_
              refine lv_icmp_ge (tgt := 155) hx hb dX7_best_64 (by decide) (fun _ => ?_) (fun h => absurd (nI_le (a := 9) (b := i) (by omega) (by omega)) h)
              refine lv_iload_n hx hb dX7_best_155 rfl (lv_at hl147 6 rfl) ?_
              refine lv_if_ne (tgt := 164) hx hb dX7_best_156 (by decide) (fun b175 => ?_) (fun b175 => ?_)
              · refine lv_iload hx hb dX7_best_164 (lv_at hl147 1 rfl) ?_
                exact zz_iret X hr hlk Z146 () (by simp [sp_best, w170]) [] [] (by decide +kernel) rfl rfl dX7_best_166
              · refine lv_iload hx hb dX7_best_159 (lv_at hl147 2 rfl) ?_
                refine lv_goto (tgt := 166) hx hb dX7_best_161 (by decide) ?_
                exact zz_iret X hr hlk Z146 () (by simp [sp_best, w170]) [] [] (by decide +kernel) rfl rfl dX7_best_166
          | succ k ih =>
              intro i vf vb hik hinv H148 locs149 ls150 Z151 hl152
              rcases hinv.2.2.2.2.2.2.2.2.2.2.2 with ⟨h0, hv⟩ | ⟨h0, hv⟩
              · subst hv
                refine lv_iload hx hb dX7_best_59 (lv_at hl152 0 rfl) ?_
                refine lv_iconst (v := 3) hx hb dX7_best_61 (by decide) ?_
                refine lv_iload_n hx hb dX7_best_62 rfl (lv_at hl152 3 rfl) ?_
                refine lv_imul hx hb dX7_best_63 ?_
                refine zz_v (v := 9) (by decide) ?_
                refine lv_icmp_ge (tgt := 155) hx hb dX7_best_64 (by decide) (fun h => absurd h (nI_ge (a := i) (b := 9) (by omega) (by omega))) (fun _ => ?_)
                refine lv_iload_n hx hb dX7_best_67 rfl (lv_at hl152 3 rfl) ?_
                refine lv_istore (lv' := [(7, .int 3), (6, .int (nI i)), (5, .int 0), (4, .int (-1)), (3, .int 3), (0, .ref mo), (1, .int 2), (2, .int what)]) hx hb dX7_best_68 hl152 (by decide) rfl (fun ls153 hl154 => ?_)
                clear hl152
                have inner : ∀ (t : Nat), t ≤ 5 → ∀ (vf : Nat → Int32) (v2 v5 v6 v7 : Int32), vf 0 = 0 ∧ vf 1 = 0 ∧ vf 2 = v2 ∧ vf 3 = 0 ∧ vf 4 = 0 ∧ vf 5 = v5 ∧ vf 6 = v6 ∧ vf 7 = v7 ∧ vf 8 = 3 ∧ vf 9 = 10 ∧ vf 10 = 0 → ∀ (Hq : Heap) (Lq : List Loc) (lq : Array Slot), zz_S D A s [(mo, .inr (7, [.ref ms, .ref mi, .ref ma, .int 0, .ref mts, .ref mtz, .ref mtn, .ref mh, .ref mhn, .ref mhw, .ref mhz, .ref mhr, .ref mcl, .ref mtp, .int 0, .int 0, .int 0, .int 0, .int 0, .int 0, .int 0, .int 0, .int 0, .int 0, .int 0, .ref mna, .ref mpi, .ref mca, .ref mwa, .int 0, .ref mrd])), (ms, .inl (kms, 3047, .inl vf)), (mcl, .inl (kcl, 47, .inl c9174))] [(kms, .int), (kcl, .int)] Hq Lq → lv_has lq 9 [(7, .int (nI (zz_pw t))), (6, .int (nI i)), (5, .int 0), (4, .int (-1)), (3, .int 3), (0, .ref mo), (1, .int 2), (2, .int what)] → W p l e (headSpec wsX7_best { frames := 3, cells := 0, slots := 0, locals := 64 }).room s m (List.toArray [.ref mo, .int 2, .int what]) below meth c Hq Lq 0 0 (MQ below (va_Qi (fun (r : Int32) (u : Unit) => r = sp_best 2 what) (fun u t => zz_B D A ((fun (u : Unit) => []) u) ((fun (u : Unit) => []) u) t) A) (List.toArray [.ref mo, .int 2, .int what]) s 0 0 A) (F0 m 70 lq []) := by
                  intro t
                  induction t with
                  | zero =>
                      intro ht vf v2 v5 v6 v7 hin H155 locs156 ls157 Z158 hl159
                      have hl160 : lv_has ls157 9 [(7, .int 0), (6, .int (nI i)), (5, .int 0), (4, .int (-1)), (3, .int 3), (0, .ref mo), (1, .int 2), (2, .int what)] := hl159
                      clear hl159
                      refine lv_iload hx hb dX7_best_70 (lv_at hl160 0 rfl) ?_
                      refine lv_if_le (tgt := 117) hx hb dX7_best_72 (by decide) (fun _ => ?_) (fun h => absurd (by decide) h)
                      refine lv_aload_n hx hb dX7_best_117 rfl (lv_at hl160 5 rfl) ?_
                      refine zz_get X Z158 0 rfl rfl (fun w h => List.mem_cons_of_mem _ (List.mem_append_right _ h)) 0 rfl (zz_m 3 rfl) rfl dX7_best_118 ?_
                      refine lv_iconst (v := 4) hx hb dX7_best_121 (by decide) ?_
                      refine zz_ild X Z158 1 0 rfl rfl (zz_in 4 3047 rfl) dX7_best_122 ?_
                      refine zz_v (v := 0) hin.2.2.2.2.1 ?_
                      refine lv_istore (lv' := [(7, .int 0), (6, .int (nI i)), (5, .int 0), (4, .int (-1)), (3, .int 3), (0, .ref mo), (1, .int 2), (2, .int what)]) hx hb dX7_best_123 hl160 (by decide) rfl (fun ls161 hl162 => ?_)
                      clear hl160
                      refine lv_aload_n hx hb dX7_best_125 rfl (lv_at hl162 5 rfl) ?_
                      refine zz_cv (WC := [(mo, .inr (7, [.ref ms, .ref mi, .ref ma, .int 0, .ref mts, .ref mtz, .ref mtn, .ref mh, .ref mhn, .ref mhw, .ref mhz, .ref mhr, .ref mcl, .ref mtp, .int 0, .int 0, .int 0, .int 0, .int 0, .int 0, .int 0, .int 0, .int 0, .int 0, .int 0, .ref mna, .ref mpi, .ref mca, .ref mwa, .int 0, .ref mrd])), (ms, .inl (kms, 3047, .inl vf)), (mcl, .inl (kcl, 47, .inl c9174))]) (TC := [(kms, .int), (kcl, .int)]) (WR := []) (TR := []) (k := 0) (n := 0) Z158 [0, 1, 2] [] [0, 1] [] rfl rfl (by decide +kernel) (by decide +kernel) (by decide +kernel) rfl rfl (fun Zc => va_runV (As := []) (rest := []) X (c7_laysBack l D mo ms mi ma mts mtz mtn mh mhn mhw mhz mhr mcl mtp mna mpi mca mwa mrd 0 0 0 0 0 0 0 0 0 0 0 0 0 kms vf kcl c9174 H155.size) (cwV 0 hts gX7_best_X7_laysBack rfl rfl rfl ⟨rfl, zh_X7_laysBack⟩ ⟨Nat.le_of_ble_eq_true rfl, Nat.le_of_ble_eq_true rfl⟩) (zz_pV (ci := 7) Zc 0 rfl rfl) rfl rfl hl162.1 rfl (lv_room (Nat.le_of_ble_eq_true rfl)) dX7_best_126 ⟨Nat.le_of_ble_eq_true rfl, Nat.le_of_ble_eq_true rfl⟩) rfl rfl (fun u176 H163 locs164 hw177 Z165 => ?_)
                      clear Z158
                      obtain ⟨f9179, rfl⟩ : ∃ z, z = u176 := ⟨_, rfl⟩
                      try dsimp only at hw177 Z165
                      have Z166 : zz_S D A s [(mo, .inr (7, [.ref ms, .ref mi, .ref ma, .int 0, .ref mts, .ref mtz, .ref mtn, .ref mh, .ref mhn, .ref mhw, .ref mhz, .ref mhr, .ref mcl, .ref mtp, .int 0, .int 0, .int 0, .int 0, .int 0, .int 0, .int 0, .int 0, .int 0, .int 0, .int 0, .ref mna, .ref mpi, .ref mca, .ref mwa, .int 0, .ref mrd])), (ms, .inl (kms, 3047, .inl f9179)), (mcl, .inl (kcl, 47, .inl c9174))] [(kms, .int), (kcl, .int)] H163 locs164 := Z165
                      clear Z165
                      have p180 : f9179 0 = 0 := (hw177 0 (by decide)).trans ((hw172 0 (by decide)).trans af_0)
                      have p181 : f9179 1 = 0 := (hw177 1 (by decide)).trans ((hw172 1 (by decide)).trans af_1)
                      have p182 : f9179 2 = 0 := (hw177 2 (by decide)).trans ((hw172 2 (by decide)).trans af_2)
                      have p183 : f9179 3 = 0 := (hw177 3 (by decide)).trans ((hw172 3 (by decide)).trans af_3)
                      have p184 : f9179 4 = 0 := (hw177 4 (by decide)).trans ((hw172 4 (by decide)).trans af_4)
                      have p185 : f9179 5 = 0 := (hw177 5 (by decide)).trans ((hw172 5 (by decide)).trans af_5)
                      have p186 : f9179 6 = 1 := (hw177 6 (by decide)).trans ((hw172 6 (by decide)).trans af_6)
                      have p187 : f9179 7 = 0 := (hw177 7 (by decide)).trans ((hw172 7 (by decide)).trans af_7)
                      have p188 : f9179 8 = 3 := (hw177 8 (by decide)).trans ((hw172 8 (by decide)).trans af_8)
                      have p189 : f9179 9 = 10 := (hw177 9 (by decide)).trans ((hw172 9 (by decide)).trans af_9)
                      have p190 : f9179 10 = 0 := (hw177 10 (by decide)).trans ((hw172 10 (by decide)).trans af_10)
                      refine lv_iload hx hb dX7_best_129 (lv_at hl162 3 rfl) ?_
                      refine lv_if_lt (tgt := 141) hx hb dX7_best_131 (by decide) (fun _ => ?_) (fun h => absurd (by decide) h)
                      refine lv_iload hx hb dX7_best_141 (lv_at hl162 1 rfl) ?_
                      refine lv_istore (lv' := [(4, .int (nI i)), (7, .int 0), (6, .int (nI i)), (5, .int 0), (3, .int 3), (0, .ref mo), (1, .int 2), (2, .int what)]) hx hb dX7_best_143 hl162 (by decide) rfl (fun ls167 hl168 => ?_)
                      clear hl162
                      refine lv_iload hx hb dX7_best_145 (lv_at hl168 1 rfl) ?_
                      refine lv_istore (lv' := [(5, .int 0), (4, .int (nI i)), (7, .int 0), (6, .int (nI i)), (3, .int 3), (0, .ref mo), (1, .int 2), (2, .int what)]) hx hb dX7_best_147 hl168 (by decide) rfl (fun ls169 hl170 => ?_)
                      clear hl168
                      refine lv_iinc (v := nI (i + 1)) (lv' := [(6, .int (nI (i + 1))), (5, .int 0), (4, .int (nI i)), (7, .int 0), (3, .int 3), (0, .ref mo), (1, .int 2), (2, .int what)]) hx hb dX7_best_149 hl170 (k := 3) rfl (nI_1 i) (by decide) rfl (fun ls171 hl172 => ?_)
                      clear hl170
                      refine lv_goto (tgt := 59) hx hb dX7_best_152 (by decide) ?_
                      exact ih (i + 1) f9179 (nI i) (by omega) ⟨p180, p181, p182, p183, p184, p185, p186, p187, p188, p189, p190, (Or.inr ⟨by omega, by rw [h0]; rfl⟩)⟩ _ _ _ Z166 (lv_sub hl172 [0, 1, 2, 4, 5, 6, 7] rfl)
                  | succ t iht =>
                      intro ht vf v2 v5 v6 v7 hin H173 locs174 ls175 Z176 hl177
                      have hl178 : lv_has ls175 9 [(7, .int (nI (zz_pw (t + 1)))), (6, .int (nI i)), (5, .int 0), (4, .int (-1)), (3, .int 3), (0, .ref mo), (1, .int 2), (2, .int what)] := hl177
                      clear hl177
                      refine lv_iload hx hb dX7_best_70 (lv_at hl178 0 rfl) ?_
                      refine lv_if_le (tgt := 117) hx hb dX7_best_72 (by decide) (fun h => absurd h (nI_nle (zz_pwP t (by omega)).1 (zz_pwP t (by omega)).2)) (fun _ => ?_)
                      refine lv_iload hx hb dX7_best_75 (lv_at hl178 1 rfl) ?_
                      refine lv_iload hx hb dX7_best_77 (lv_at hl178 0 rfl) ?_
                      refine lv_idiv hx hb dX7_best_79 (nI_ne0 (zz_pwP t (by omega)).1 (zz_pwP t (by omega)).2) ?_
                      refine lv_iconst (v := 3) hx hb dX7_best_80 (by decide) ?_
                      refine lv_irem hx hb dX7_best_81 (by decide) ?_
                      refine lv_topi (fun y191 ey192 => ?_)
                      refine lv_istore (lv' := [(8, .int y191), (7, .int (nI (zz_pw (t + 1)))), (6, .int (nI i)), (5, .int 0), (4, .int (-1)), (3, .int 3), (0, .ref mo), (1, .int 2), (2, .int what)]) hx hb dX7_best_82 hl178 (by decide) rfl (fun ls179 hl180 => ?_)
                      clear hl178
                      refine lv_aload_n hx hb dX7_best_84 rfl (lv_at hl180 6 rfl) ?_
                      refine lv_iload hx hb dX7_best_85 (lv_at hl180 0 rfl) ?_
                      refine lv_if_ne (tgt := 94) hx hb dX7_best_87 (by decide) (fun b193 => ?_) (fun b193 => ?_)
                      · refine lv_iload hx hb dX7_best_94 (lv_at hl180 0 rfl) ?_
                        refine lv_iconst (v := 1) hx hb dX7_best_96 (by decide) ?_
                        refine lv_icmp_ne (tgt := 104) hx hb dX7_best_97 (by decide) (fun b194 => ?_) (fun b194 => ?_)
                        · refine lv_iconst (v := 1) hx hb dX7_best_104 (by decide) ?_
                          refine zz_cv (WC := [(mo, .inr (7, [.ref ms, .ref mi, .ref ma, .int 0, .ref mts, .ref mtz, .ref mtn, .ref mh, .ref mhn, .ref mhw, .ref mhz, .ref mhr, .ref mcl, .ref mtp, .int 0, .int 0, .int 0, .int 0, .int 0, .int 0, .int 0, .int 0, .int 0, .int 0, .int 0, .ref mna, .ref mpi, .ref mca, .ref mwa, .int 0, .ref mrd])), (ms, .inl (kms, 3047, .inl vf))]) (TC := [(kms, .int)]) (WR := [(mcl, .inl (kcl, 47, .inl c9174))]) (TR := [(kcl, .int)]) (k := 0) (n := 0) Z176 [0, 1] [2] [0] [1] rfl rfl (by decide +kernel) (by decide +kernel) (by decide +kernel) rfl rfl (fun Zc => va_runV (As := [.int 1]) (rest := []) X (c7_goesOnBy l D mo ms mi ma mts mtz mtn mh mhn mhw mhz mhr mcl mtp mna mpi mca mwa mrd 0 0 0 0 0 0 0 0 0 0 0 0 0 kms vf 0 v2 0 0 v5 v6 v7 3 10 0 1 hin.1 hin.2.1 hin.2.2.1 hin.2.2.2.1 hin.2.2.2.2.1 hin.2.2.2.2.2.1 hin.2.2.2.2.2.2.1 hin.2.2.2.2.2.2.2.1 hin.2.2.2.2.2.2.2.2.1 hin.2.2.2.2.2.2.2.2.2.1 hin.2.2.2.2.2.2.2.2.2.2 H173.size) (cwV 1 hts gX7_best_X7_goesOnBy rfl rfl rfl ⟨rfl, zh_X7_goesOnBy⟩ ⟨Nat.le_of_ble_eq_true rfl, Nat.le_of_ble_eq_true rfl⟩) (zz_pV (ci := 7) Zc 0 rfl rfl) rfl rfl hl180.1 rfl (lv_room (Nat.le_of_ble_eq_true rfl)) dX7_best_105 ⟨Nat.le_of_ble_eq_true rfl, Nat.le_of_ble_eq_true rfl⟩) rfl rfl (fun u195 H181 locs182 hw196 Z183 => ?_)
                          clear Z176
                          obtain ⟨f9198, F9199, T9200, Z9201⟩ := u195
                          try dsimp only at hw196 Z183
                          obtain ⟨⟨p202, p203, p204, p205, p206, p207, p208, p209, p210, p211, p212⟩, hx213⟩ := hw196
                          obtain ⟨rfl, rfl, rfl⟩ := hx213
                          have Z184 : zz_S D A s [(mcl, .inl (kcl, 47, .inl c9174)), (mo, .inr (7, [.ref ms, .ref mi, .ref ma, .int 0, .ref mts, .ref mtz, .ref mtn, .ref mh, .ref mhn, .ref mhw, .ref mhz, .ref mhr, .ref mcl, .ref mtp, .int 0, .int 0, .int 0, .int 0, .int 0, .int 0, .int 0, .int 0, .int 0, .int 0, .int 0, .ref mna, .ref mpi, .ref mca, .ref mwa, .int 0, .ref mrd])), (ms, .inl (kms, 3047, .inl f9198))] [(kcl, .int), (kms, .int)] H181 locs182 := Z183
                          clear Z183
                          refine lv_iload hx hb dX7_best_108 (lv_at hl180 1 rfl) ?_
                          refine lv_iconst (v := 3) hx hb dX7_best_110 (by decide) ?_
                          refine lv_idiv hx hb dX7_best_111 (by decide) ?_
                          refine zz_v (v := nI (zz_pw t)) (zz_pw3 t (by omega)) ?_
                          refine lv_istore (lv' := [(7, .int (nI (zz_pw t))), (8, .int y191), (6, .int (nI i)), (5, .int 0), (4, .int (-1)), (3, .int 3), (0, .ref mo), (1, .int 2), (2, .int what)]) hx hb dX7_best_112 hl180 (by decide) rfl (fun ls185 hl186 => ?_)
                          clear hl180
                          refine lv_goto (tgt := 70) hx hb dX7_best_114 (by decide) ?_
                          exact iht (by omega) f9198 (v2 + 1) (zz_bT v5 v6 10) (zz_bZ v6 10) (zz_mF v7 1 v6 3 10) ⟨p202, p203, p204, p205, p206, p207, p208, p209, p210, p211, p212⟩ _ _ _ Z184 (lv_sub hl186 [0, 2, 3, 4, 5, 6, 7, 8] rfl)
                        · refine lv_iconst (v := (-1)) hx hb dX7_best_100 (by decide) ?_
                          refine lv_goto (tgt := 105) hx hb dX7_best_101 (by decide) ?_
                          refine zz_cv (WC := [(mo, .inr (7, [.ref ms, .ref mi, .ref ma, .int 0, .ref mts, .ref mtz, .ref mtn, .ref mh, .ref mhn, .ref mhw, .ref mhz, .ref mhr, .ref mcl, .ref mtp, .int 0, .int 0, .int 0, .int 0, .int 0, .int 0, .int 0, .int 0, .int 0, .int 0, .int 0, .ref mna, .ref mpi, .ref mca, .ref mwa, .int 0, .ref mrd])), (ms, .inl (kms, 3047, .inl vf))]) (TC := [(kms, .int)]) (WR := [(mcl, .inl (kcl, 47, .inl c9174))]) (TR := [(kcl, .int)]) (k := 0) (n := 0) Z176 [0, 1] [2] [0] [1] rfl rfl (by decide +kernel) (by decide +kernel) (by decide +kernel) rfl rfl (fun Zc => va_runV (As := [.int (-1)]) (rest := []) X (c7_goesOnBy l D mo ms mi ma mts mtz mtn mh mhn mhw mhz mhr mcl mtp mna mpi mca mwa mrd 0 0 0 0 0 0 0 0 0 0 0 0 0 kms vf 0 v2 0 0 v5 v6 v7 3 10 0 (-1) hin.1 hin.2.1 hin.2.2.1 hin.2.2.2.1 hin.2.2.2.2.1 hin.2.2.2.2.2.1 hin.2.2.2.2.2.2.1 hin.2.2.2.2.2.2.2.1 hin.2.2.2.2.2.2.2.2.1 hin.2.2.2.2.2.2.2.2.2.1 hin.2.2.2.2.2.2.2.2.2.2 H173.size) (cwV 1 hts gX7_best_X7_goesOnBy rfl rfl rfl ⟨rfl, zh_X7_goesOnBy⟩ ⟨Nat.le_of_ble_eq_true rfl, Nat.le_of_ble_eq_true rfl⟩) (zz_pV (ci := 7) Zc 0 rfl rfl) rfl rfl hl180.1 rfl (lv_room (Nat.le_of_ble_eq_true rfl)) dX7_best_105 ⟨Nat.le_of_ble_eq_true rfl, Nat.le_of_ble_eq_true rfl⟩) rfl rfl (fun u214 H187 locs188 hw215 Z189 => ?_)
                          clear Z176
                          obtain ⟨f9217, F9218, T9219, Z9220⟩ := u214
                          try dsimp only at hw215 Z189
                          obtain ⟨⟨p221, p222, p223, p224, p225, p226, p227, p228, p229, p230, p231⟩, hx232⟩ := hw215
                          obtain ⟨rfl, rfl, rfl⟩ := hx232
                          have Z190 : zz_S D A s [(mcl, .inl (kcl, 47, .inl c9174)), (mo, .inr (7, [.ref ms, .ref mi, .ref ma, .int 0, .ref mts, .ref mtz, .ref mtn, .ref mh, .ref mhn, .ref mhw, .ref mhz, .ref mhr, .ref mcl, .ref mtp, .int 0, .int 0, .int 0, .int 0, .int 0, .int 0, .int 0, .int 0, .int 0, .int 0, .int 0, .ref mna, .ref mpi, .ref mca, .ref mwa, .int 0, .ref mrd])), (ms, .inl (kms, 3047, .inl f9217))] [(kcl, .int), (kms, .int)] H187 locs188 := Z189
                          clear Z189
                          refine lv_iload hx hb dX7_best_108 (lv_at hl180 1 rfl) ?_
                          refine lv_iconst (v := 3) hx hb dX7_best_110 (by decide) ?_
                          refine lv_idiv hx hb dX7_best_111 (by decide) ?_
                          refine zz_v (v := nI (zz_pw t)) (zz_pw3 t (by omega)) ?_
                          refine lv_istore (lv' := [(7, .int (nI (zz_pw t))), (8, .int y191), (6, .int (nI i)), (5, .int 0), (4, .int (-1)), (3, .int 3), (0, .ref mo), (1, .int 2), (2, .int what)]) hx hb dX7_best_112 hl180 (by decide) rfl (fun ls191 hl192 => ?_)
                          clear hl180
                          refine lv_goto (tgt := 70) hx hb dX7_best_114 (by decide) ?_
                          exact iht (by omega) f9217 (v2 + 1) (zz_bT v5 v6 10) (zz_bZ v6 10) (zz_mF v7 (-1) v6 3 10) ⟨p221, p222, p223, p224, p225, p226, p227, p228, p229, p230, p231⟩ _ _ _ Z190 (lv_sub hl192 [0, 2, 3, 4, 5, 6, 7, 8] rfl)
                      · refine lv_iconst (v := 0) hx hb dX7_best_90 (by decide) ?_
                        refine lv_goto (tgt := 105) hx hb dX7_best_91 (by decide) ?_
                        refine zz_cv (WC := [(mo, .inr (7, [.ref ms, .ref mi, .ref ma, .int 0, .ref mts, .ref mtz, .ref mtn, .ref mh, .ref mhn, .ref mhw, .ref mhz, .ref mhr, .ref mcl, .ref mtp, .int 0, .int 0, .int 0, .int 0, .int 0, .int 0, .int 0, .int 0, .int 0, .int 0, .int 0, .ref mna, .ref mpi, .ref mca, .ref mwa, .int 0, .ref mrd])), (ms, .inl (kms, 3047, .inl vf))]) (TC := [(kms, .int)]) (WR := [(mcl, .inl (kcl, 47, .inl c9174))]) (TR := [(kcl, .int)]) (k := 0) (n := 0) Z176 [0, 1] [2] [0] [1] rfl rfl (by decide +kernel) (by decide +kernel) (by decide +kernel) rfl rfl (fun Zc => va_runV (As := [.int 0]) (rest := []) X (c7_goesOnBy l D mo ms mi ma mts mtz mtn mh mhn mhw mhz mhr mcl mtp mna mpi mca mwa mrd 0 0 0 0 0 0 0 0 0 0 0 0 0 kms vf 0 v2 0 0 v5 v6 v7 3 10 0 0 hin.1 hin.2.1 hin.2.2.1 hin.2.2.2.1 hin.2.2.2.2.1 hin.2.2.2.2.2.1 hin.2.2.2.2.2.2.1 hin.2.2.2.2.2.2.2.1 hin.2.2.2.2.2.2.2.2.1 hin.2.2.2.2.2.2.2.2.2.1 hin.2.2.2.2.2.2.2.2.2.2 H173.size) (cwV 1 hts gX7_best_X7_goesOnBy rfl rfl rfl ⟨rfl, zh_X7_goesOnBy⟩ ⟨Nat.le_of_ble_eq_true rfl, Nat.le_of_ble_eq_true rfl⟩) (zz_pV (ci := 7) Zc 0 rfl rfl) rfl rfl hl180.1 rfl (lv_room (Nat.le_of_ble_eq_true rfl)) dX7_best_105 ⟨Nat.le_of_ble_eq_true rfl, Nat.le_of_ble_eq_true rfl⟩) rfl rfl (fun u233 H193 locs194 hw234 Z195 => ?_)
                        clear Z176
                        obtain ⟨f9236, F9237, T9238, Z9239⟩ := u233
                        try dsimp only at hw234 Z195
                        obtain ⟨⟨p240, p241, p242, p243, p244, p245, p246, p247, p248, p249, p250⟩, hx251⟩ := hw234
                        obtain ⟨rfl, rfl, rfl⟩ := hx251
                        have Z196 : zz_S D A s [(mcl, .inl (kcl, 47, .inl c9174)), (mo, .inr (7, [.ref ms, .ref mi, .ref ma, .int 0, .ref mts, .ref mtz, .ref mtn, .ref mh, .ref mhn, .ref mhw, .ref mhz, .ref mhr, .ref mcl, .ref mtp, .int 0, .int 0, .int 0, .int 0, .int 0, .int 0, .int 0, .int 0, .int 0, .int 0, .int 0, .ref mna, .ref mpi, .ref mca, .ref mwa, .int 0, .ref mrd])), (ms, .inl (kms, 3047, .inl f9236))] [(kcl, .int), (kms, .int)] H193 locs194 := Z195
                        clear Z195
                        refine lv_iload hx hb dX7_best_108 (lv_at hl180 1 rfl) ?_
                        refine lv_iconst (v := 3) hx hb dX7_best_110 (by decide) ?_
                        refine lv_idiv hx hb dX7_best_111 (by decide) ?_
                        refine zz_v (v := nI (zz_pw t)) (zz_pw3 t (by omega)) ?_
                        refine lv_istore (lv' := [(7, .int (nI (zz_pw t))), (8, .int y191), (6, .int (nI i)), (5, .int 0), (4, .int (-1)), (3, .int 3), (0, .ref mo), (1, .int 2), (2, .int what)]) hx hb dX7_best_112 hl180 (by decide) rfl (fun ls197 hl198 => ?_)
                        clear hl180
                        refine lv_goto (tgt := 70) hx hb dX7_best_114 (by decide) ?_
                        exact iht (by omega) f9236 (v2 + 1) (zz_bT v5 v6 10) (zz_bZ v6 10) (zz_mF v7 0 v6 3 10) ⟨p240, p241, p242, p243, p244, p245, p246, p247, p248, p249, p250⟩ _ _ _ Z196 (lv_sub hl198 [0, 2, 3, 4, 5, 6, 7, 8] rfl)
                exact inner 2 (by decide) vf 0 0 1 0 ⟨hinv.1, hinv.2.1, hinv.2.2.1, hinv.2.2.2.1, hinv.2.2.2.2.1, hinv.2.2.2.2.2.1, hinv.2.2.2.2.2.2.1, hinv.2.2.2.2.2.2.2.1, hinv.2.2.2.2.2.2.2.2.1, hinv.2.2.2.2.2.2.2.2.2.1, hinv.2.2.2.2.2.2.2.2.2.2.1⟩ _ _ _ Z151 hl154
              · subst hv
                refine lv_iload hx hb dX7_best_59 (lv_at hl152 0 rfl) ?_
                refine lv_iconst (v := 3) hx hb dX7_best_61 (by decide) ?_
                refine lv_iload_n hx hb dX7_best_62 rfl (lv_at hl152 3 rfl) ?_
                refine lv_imul hx hb dX7_best_63 ?_
                refine zz_v (v := 9) (by decide) ?_
                refine lv_icmp_ge (tgt := 155) hx hb dX7_best_64 (by decide) (fun h => absurd h (nI_ge (a := i) (b := 9) (by omega) (by omega))) (fun _ => ?_)
                refine lv_iload_n hx hb dX7_best_67 rfl (lv_at hl152 3 rfl) ?_
                refine lv_istore (lv' := [(7, .int 3), (6, .int (nI i)), (5, .int 0), (4, .int 0), (3, .int 3), (0, .ref mo), (1, .int 2), (2, .int what)]) hx hb dX7_best_68 hl152 (by decide) rfl (fun ls199 hl200 => ?_)
                clear hl152
                have inner : ∀ (t : Nat), t ≤ 5 → ∀ (vf : Nat → Int32) (v2 v5 v6 v7 : Int32), vf 0 = 0 ∧ vf 1 = 0 ∧ vf 2 = v2 ∧ vf 3 = 0 ∧ vf 4 = 0 ∧ vf 5 = v5 ∧ vf 6 = v6 ∧ vf 7 = v7 ∧ vf 8 = 3 ∧ vf 9 = 10 ∧ vf 10 = 0 → ∀ (Hq : Heap) (Lq : List Loc) (lq : Array Slot), zz_S D A s [(mo, .inr (7, [.ref ms, .ref mi, .ref ma, .int 0, .ref mts, .ref mtz, .ref mtn, .ref mh, .ref mhn, .ref mhw, .ref mhz, .ref mhr, .ref mcl, .ref mtp, .int 0, .int 0, .int 0, .int 0, .int 0, .int 0, .int 0, .int 0, .int 0, .int 0, .int 0, .ref mna, .ref mpi, .ref mca, .ref mwa, .int 0, .ref mrd])), (ms, .inl (kms, 3047, .inl vf)), (mcl, .inl (kcl, 47, .inl c9174))] [(kms, .int), (kcl, .int)] Hq Lq → lv_has lq 9 [(7, .int (nI (zz_pw t))), (6, .int (nI i)), (5, .int 0), (4, .int 0), (3, .int 3), (0, .ref mo), (1, .int 2), (2, .int what)] → W p l e (headSpec wsX7_best { frames := 3, cells := 0, slots := 0, locals := 64 }).room s m (List.toArray [.ref mo, .int 2, .int what]) below meth c Hq Lq 0 0 (MQ below (va_Qi (fun (r : Int32) (u : Unit) => r = sp_best 2 what) (fun u t => zz_B D A ((fun (u : Unit) => []) u) ((fun (u : Unit) => []) u) t) A) (List.toArray [.ref mo, .int 2, .int what]) s 0 0 A) (F0 m 70 lq []) := by
                  intro t
                  induction t with
                  | zero =>
                      intro ht vf v2 v5 v6 v7 hin H201 locs202 ls203 Z204 hl205
                      have hl206 : lv_has ls203 9 [(7, .int 0), (6, .int (nI i)), (5, .int 0), (4, .int 0), (3, .int 3), (0, .ref mo), (1, .int 2), (2, .int what)] := hl205
                      clear hl205
                      refine lv_iload hx hb dX7_best_70 (lv_at hl206 0 rfl) ?_
                      refine lv_if_le (tgt := 117) hx hb dX7_best_72 (by decide) (fun _ => ?_) (fun h => absurd (by decide) h)
                      refine lv_aload_n hx hb dX7_best_117 rfl (lv_at hl206 5 rfl) ?_
                      refine zz_get X Z204 0 rfl rfl (fun w h => List.mem_cons_of_mem _ (List.mem_append_right _ h)) 0 rfl (zz_m 3 rfl) rfl dX7_best_118 ?_
                      refine lv_iconst (v := 4) hx hb dX7_best_121 (by decide) ?_
                      refine zz_ild X Z204 1 0 rfl rfl (zz_in 4 3047 rfl) dX7_best_122 ?_
                      refine zz_v (v := 0) hin.2.2.2.2.1 ?_
                      refine lv_istore (lv' := [(7, .int 0), (6, .int (nI i)), (5, .int 0), (4, .int 0), (3, .int 3), (0, .ref mo), (1, .int 2), (2, .int what)]) hx hb dX7_best_123 hl206 (by decide) rfl (fun ls207 hl208 => ?_)
                      clear hl206
                      refine lv_aload_n hx hb dX7_best_125 rfl (lv_at hl208 5 rfl) ?_
                      refine zz_cv (WC := [(mo, .inr (7, [.ref ms, .ref mi, .ref ma, .int 0, .ref mts, .ref mtz, .ref mtn, .ref mh, .ref mhn, .ref mhw, .ref mhz, .ref mhr, .ref mcl, .ref mtp, .int 0, .int 0, .int 0, .int 0, .int 0, .int 0, .int 0, .int 0, .int 0, .int 0, .int 0, .ref mna, .ref mpi, .ref mca, .ref mwa, .int 0, .ref mrd])), (ms, .inl (kms, 3047, .inl vf)), (mcl, .inl (kcl, 47, .inl c9174))]) (TC := [(kms, .int), (kcl, .int)]) (WR := []) (TR := []) (k := 0) (n := 0) Z204 [0, 1, 2] [] [0, 1] [] rfl rfl (by decide +kernel) (by decide +kernel) (by decide +kernel) rfl rfl (fun Zc => va_runV (As := []) (rest := []) X (c7_laysBack l D mo ms mi ma mts mtz mtn mh mhn mhw mhz mhr mcl mtp mna mpi mca mwa mrd 0 0 0 0 0 0 0 0 0 0 0 0 0 kms vf kcl c9174 H201.size) (cwV 0 hts gX7_best_X7_laysBack rfl rfl rfl ⟨rfl, zh_X7_laysBack⟩ ⟨Nat.le_of_ble_eq_true rfl, Nat.le_of_ble_eq_true rfl⟩) (zz_pV (ci := 7) Zc 0 rfl rfl) rfl rfl hl208.1 rfl (lv_room (Nat.le_of_ble_eq_true rfl)) dX7_best_126 ⟨Nat.le_of_ble_eq_true rfl, Nat.le_of_ble_eq_true rfl⟩) rfl rfl (fun u252 H209 locs210 hw253 Z211 => ?_)
                      clear Z204
                      obtain ⟨f9255, rfl⟩ : ∃ z, z = u252 := ⟨_, rfl⟩
                      try dsimp only at hw253 Z211
                      have Z212 : zz_S D A s [(mo, .inr (7, [.ref ms, .ref mi, .ref ma, .int 0, .ref mts, .ref mtz, .ref mtn, .ref mh, .ref mhn, .ref mhw, .ref mhz, .ref mhr, .ref mcl, .ref mtp, .int 0, .int 0, .int 0, .int 0, .int 0, .int 0, .int 0, .int 0, .int 0, .int 0, .int 0, .ref mna, .ref mpi, .ref mca, .ref mwa, .int 0, .ref mrd])), (ms, .inl (kms, 3047, .inl f9255)), (mcl, .inl (kcl, 47, .inl c9174))] [(kms, .int), (kcl, .int)] H209 locs210 := Z211
                      clear Z211
                      have p256 : f9255 0 = 0 := (hw253 0 (by decide)).trans ((hw172 0 (by decide)).trans af_0)
                      have p257 : f9255 1 = 0 := (hw253 1 (by decide)).trans ((hw172 1 (by decide)).trans af_1)
                      have p258 : f9255 2 = 0 := (hw253 2 (by decide)).trans ((hw172 2 (by decide)).trans af_2)
                      have p259 : f9255 3 = 0 := (hw253 3 (by decide)).trans ((hw172 3 (by decide)).trans af_3)
                      have p260 : f9255 4 = 0 := (hw253 4 (by decide)).trans ((hw172 4 (by decide)).trans af_4)
                      have p261 : f9255 5 = 0 := (hw253 5 (by decide)).trans ((hw172 5 (by decide)).trans af_5)
                      have p262 : f9255 6 = 1 := (hw253 6 (by decide)).trans ((hw172 6 (by decide)).trans af_6)
                      have p263 : f9255 7 = 0 := (hw253 7 (by decide)).trans ((hw172 7 (by decide)).trans af_7)
                      have p264 : f9255 8 = 3 := (hw253 8 (by decide)).trans ((hw172 8 (by decide)).trans af_8)
                      have p265 : f9255 9 = 10 := (hw253 9 (by decide)).trans ((hw172 9 (by decide)).trans af_9)
                      have p266 : f9255 10 = 0 := (hw253 10 (by decide)).trans ((hw172 10 (by decide)).trans af_10)
                      refine lv_iload hx hb dX7_best_129 (lv_at hl208 3 rfl) ?_
                      refine lv_if_lt (tgt := 141) hx hb dX7_best_131 (by decide) (fun h => absurd h (by decide)) (fun _ => ?_)
                      refine lv_iload hx hb dX7_best_134 (lv_at hl208 0 rfl) ?_
                      refine lv_iload hx hb dX7_best_136 (lv_at hl208 2 rfl) ?_
                      refine lv_icmp_ge (tgt := 149) hx hb dX7_best_138 (by decide) (fun _ => ?_) (fun h => absurd (by decide) h)
                      refine lv_iinc (v := nI (i + 1)) (lv' := [(6, .int (nI (i + 1))), (7, .int 0), (5, .int 0), (4, .int 0), (3, .int 3), (0, .ref mo), (1, .int 2), (2, .int what)]) hx hb dX7_best_149 hl208 (k := 1) rfl (nI_1 i) (by decide) rfl (fun ls213 hl214 => ?_)
                      clear hl208
                      refine lv_goto (tgt := 59) hx hb dX7_best_152 (by decide) ?_
                      exact ih (i + 1) f9255 0 (by omega) ⟨p256, p257, p258, p259, p260, p261, p262, p263, p264, p265, p266, (Or.inr ⟨by omega, rfl⟩)⟩ _ _ _ Z212 (lv_sub hl214 [0, 2, 3, 4, 5, 6, 7] rfl)
                  | succ t iht =>
                      intro ht vf v2 v5 v6 v7 hin H215 locs216 ls217 Z218 hl219
                      have hl220 : lv_has ls217 9 [(7, .int (nI (zz_pw (t + 1)))), (6, .int (nI i)), (5, .int 0), (4, .int 0), (3, .int 3), (0, .ref mo), (1, .int 2), (2, .int what)] := hl219
                      clear hl219
                      refine lv_iload hx hb dX7_best_70 (lv_at hl220 0 rfl) ?_
                      refine lv_if_le (tgt := 117) hx hb dX7_best_72 (by decide) (fun h => absurd h (nI_nle (zz_pwP t (by omega)).1 (zz_pwP t (by omega)).2)) (fun _ => ?_)
                      refine lv_iload hx hb dX7_best_75 (lv_at hl220 1 rfl) ?_
                      refine lv_iload hx hb dX7_best_77 (lv_at hl220 0 rfl) ?_
                      refine lv_idiv hx hb dX7_best_79 (nI_ne0 (zz_pwP t (by omega)).1 (zz_pwP t (by omega)).2) ?_
                      refine lv_iconst (v := 3) hx hb dX7_best_80 (by decide) ?_
                      refine lv_irem hx hb dX7_best_81 (by decide) ?_
                      refine lv_topi (fun y267 ey268 => ?_)
                      refine lv_istore (lv' := [(8, .int y267), (7, .int (nI (zz_pw (t + 1)))), (6, .int (nI i)), (5, .int 0), (4, .int 0), (3, .int 3), (0, .ref mo), (1, .int 2), (2, .int what)]) hx hb dX7_best_82 hl220 (by decide) rfl (fun ls221 hl222 => ?_)
                      clear hl220
                      refine lv_aload_n hx hb dX7_best_84 rfl (lv_at hl222 6 rfl) ?_
                      refine lv_iload hx hb dX7_best_85 (lv_at hl222 0 rfl) ?_
                      refine lv_if_ne (tgt := 94) hx hb dX7_best_87 (by decide) (fun b269 => ?_) (fun b269 => ?_)
                      · refine lv_iload hx hb dX7_best_94 (lv_at hl222 0 rfl) ?_
                        refine lv_iconst (v := 1) hx hb dX7_best_96 (by decide) ?_
                        refine lv_icmp_ne (tgt := 104) hx hb dX7_best_97 (by decide) (fun b270 => ?_) (fun b270 => ?_)
                        · refine lv_iconst (v := 1) hx hb dX7_best_104 (by decide) ?_
                          refine zz_cv (WC := [(mo, .inr (7, [.ref ms, .ref mi, .ref ma, .int 0, .ref mts, .ref mtz, .ref mtn, .ref mh, .ref mhn, .ref mhw, .ref mhz, .ref mhr, .ref mcl, .ref mtp, .int 0, .int 0, .int 0, .int 0, .int 0, .int 0, .int 0, .int 0, .int 0, .int 0, .int 0, .ref mna, .ref mpi, .ref mca, .ref mwa, .int 0, .ref mrd])), (ms, .inl (kms, 3047, .inl vf))]) (TC := [(kms, .int)]) (WR := [(mcl, .inl (kcl, 47, .inl c9174))]) (TR := [(kcl, .int)]) (k := 0) (n := 0) Z218 [0, 1] [2] [0] [1] rfl rfl (by decide +kernel) (by decide +kernel) (by decide +kernel) rfl rfl (fun Zc => va_runV (As := [.int 1]) (rest := []) X (c7_goesOnBy l D mo ms mi ma mts mtz mtn mh mhn mhw mhz mhr mcl mtp mna mpi mca mwa mrd 0 0 0 0 0 0 0 0 0 0 0 0 0 kms vf 0 v2 0 0 v5 v6 v7 3 10 0 1 hin.1 hin.2.1 hin.2.2.1 hin.2.2.2.1 hin.2.2.2.2.1 hin.2.2.2.2.2.1 hin.2.2.2.2.2.2.1 hin.2.2.2.2.2.2.2.1 hin.2.2.2.2.2.2.2.2.1 hin.2.2.2.2.2.2.2.2.2.1 hin.2.2.2.2.2.2.2.2.2.2 H215.size) (cwV 1 hts gX7_best_X7_goesOnBy rfl rfl rfl ⟨rfl, zh_X7_goesOnBy⟩ ⟨Nat.le_of_ble_eq_true rfl, Nat.le_of_ble_eq_true rfl⟩) (zz_pV (ci := 7) Zc 0 rfl rfl) rfl rfl hl222.1 rfl (lv_room (Nat.le_of_ble_eq_true rfl)) dX7_best_105 ⟨Nat.le_of_ble_eq_true rfl, Nat.le_of_ble_eq_true rfl⟩) rfl rfl (fun u271 H223 locs224 hw272 Z225 => ?_)
                          clear Z218
                          obtain ⟨f9274, F9275, T9276, Z9277⟩ := u271
                          try dsimp only at hw272 Z225
                          obtain ⟨⟨p278, p279, p280, p281, p282, p283, p284, p285, p286, p287, p288⟩, hx289⟩ := hw272
                          obtain ⟨rfl, rfl, rfl⟩ := hx289
                          have Z226 : zz_S D A s [(mcl, .inl (kcl, 47, .inl c9174)), (mo, .inr (7, [.ref ms, .ref mi, .ref ma, .int 0, .ref mts, .ref mtz, .ref mtn, .ref mh, .ref mhn, .ref mhw, .ref mhz, .ref mhr, .ref mcl, .ref mtp, .int 0, .int 0, .int 0, .int 0, .int 0, .int 0, .int 0, .int 0, .int 0, .int 0, .int 0, .ref mna, .ref mpi, .ref mca, .ref mwa, .int 0, .ref mrd])), (ms, .inl (kms, 3047, .inl f9274))] [(kcl, .int), (kms, .int)] H223 locs224 := Z225
                          clear Z225
                          refine lv_iload hx hb dX7_best_108 (lv_at hl222 1 rfl) ?_
                          refine lv_iconst (v := 3) hx hb dX7_best_110 (by decide) ?_
                          refine lv_idiv hx hb dX7_best_111 (by decide) ?_
                          refine zz_v (v := nI (zz_pw t)) (zz_pw3 t (by omega)) ?_
                          refine lv_istore (lv' := [(7, .int (nI (zz_pw t))), (8, .int y267), (6, .int (nI i)), (5, .int 0), (4, .int 0), (3, .int 3), (0, .ref mo), (1, .int 2), (2, .int what)]) hx hb dX7_best_112 hl222 (by decide) rfl (fun ls227 hl228 => ?_)
                          clear hl222
                          refine lv_goto (tgt := 70) hx hb dX7_best_114 (by decide) ?_
                          exact iht (by omega) f9274 (v2 + 1) (zz_bT v5 v6 10) (zz_bZ v6 10) (zz_mF v7 1 v6 3 10) ⟨p278, p279, p280, p281, p282, p283, p284, p285, p286, p287, p288⟩ _ _ _ Z226 (lv_sub hl228 [0, 2, 3, 4, 5, 6, 7, 8] rfl)
                        · refine lv_iconst (v := (-1)) hx hb dX7_best_100 (by decide) ?_
                          refine lv_goto (tgt := 105) hx hb dX7_best_101 (by decide) ?_
                          refine zz_cv (WC := [(mo, .inr (7, [.ref ms, .ref mi, .ref ma, .int 0, .ref mts, .ref mtz, .ref mtn, .ref mh, .ref mhn, .ref mhw, .ref mhz, .ref mhr, .ref mcl, .ref mtp, .int 0, .int 0, .int 0, .int 0, .int 0, .int 0, .int 0, .int 0, .int 0, .int 0, .int 0, .ref mna, .ref mpi, .ref mca, .ref mwa, .int 0, .ref mrd])), (ms, .inl (kms, 3047, .inl vf))]) (TC := [(kms, .int)]) (WR := [(mcl, .inl (kcl, 47, .inl c9174))]) (TR := [(kcl, .int)]) (k := 0) (n := 0) Z218 [0, 1] [2] [0] [1] rfl rfl (by decide +kernel) (by decide +kernel) (by decide +kernel) rfl rfl (fun Zc => va_runV (As := [.int (-1)]) (rest := []) X (c7_goesOnBy l D mo ms mi ma mts mtz mtn mh mhn mhw mhz mhr mcl mtp mna mpi mca mwa mrd 0 0 0 0 0 0 0 0 0 0 0 0 0 kms vf 0 v2 0 0 v5 v6 v7 3 10 0 (-1) hin.1 hin.2.1 hin.2.2.1 hin.2.2.2.1 hin.2.2.2.2.1 hin.2.2.2.2.2.1 hin.2.2.2.2.2.2.1 hin.2.2.2.2.2.2.2.1 hin.2.2.2.2.2.2.2.2.1 hin.2.2.2.2.2.2.2.2.2.1 hin.2.2.2.2.2.2.2.2.2.2 H215.size) (cwV 1 hts gX7_best_X7_goesOnBy rfl rfl rfl ⟨rfl, zh_X7_goesOnBy⟩ ⟨Nat.le_of_ble_eq_true rfl, Nat.le_of_ble_eq_true rfl⟩) (zz_pV (ci := 7) Zc 0 rfl rfl) rfl rfl hl222.1 rfl (lv_room (Nat.le_of_ble_eq_true rfl)) dX7_best_105 ⟨Nat.le_of_ble_eq_true rfl, Nat.le_of_ble_eq_true rfl⟩) rfl rfl (fun u290 H229 locs230 hw291 Z231 => ?_)
                          clear Z218
                          obtain ⟨f9293, F9294, T9295, Z9296⟩ := u290
                          try dsimp only at hw291 Z231
                          obtain ⟨⟨p297, p298, p299, p300, p301, p302, p303, p304, p305, p306, p307⟩, hx308⟩ := hw291
                          obtain ⟨rfl, rfl, rfl⟩ := hx308
                          have Z232 : zz_S D A s [(mcl, .inl (kcl, 47, .inl c9174)), (mo, .inr (7, [.ref ms, .ref mi, .ref ma, .int 0, .ref mts, .ref mtz, .ref mtn, .ref mh, .ref mhn, .ref mhw, .ref mhz, .ref mhr, .ref mcl, .ref mtp, .int 0, .int 0, .int 0, .int 0, .int 0, .int 0, .int 0, .int 0, .int 0, .int 0, .int 0, .ref mna, .ref mpi, .ref mca, .ref mwa, .int 0, .ref mrd])), (ms, .inl (kms, 3047, .inl f9293))] [(kcl, .int), (kms, .int)] H229 locs230 := Z231
                          clear Z231
                          refine lv_iload hx hb dX7_best_108 (lv_at hl222 1 rfl) ?_
                          refine lv_iconst (v := 3) hx hb dX7_best_110 (by decide) ?_
                          refine lv_idiv hx hb dX7_best_111 (by decide) ?_
                          refine zz_v (v := nI (zz_pw t)) (zz_pw3 t (by omega)) ?_
                          refine lv_istore (lv' := [(7, .int (nI (zz_pw t))), (8, .int y267), (6, .int (nI i)), (5, .int 0), (4, .int 0), (3, .int 3), (0, .ref mo), (1, .int 2), (2, .int what)]) hx hb dX7_best_112 hl222 (by decide) rfl (fun ls233 hl234 => ?_)
                          clear hl222
                          refine lv_goto (tgt := 70) hx hb dX7_best_114 (by decide) ?_
                          exact iht (by omega) f9293 (v2 + 1) (zz_bT v5 v6 10) (zz_bZ v6 10) (zz_mF v7 (-1) v6 3 10) ⟨p297, p298, p299, p300, p301, p302, p303, p304, p305, p306, p307⟩ _ _ _ Z232 (lv_sub hl234 [0, 2, 3, 4, 5, 6, 7, 8] rfl)
                      · refine lv_iconst (v := 0) hx hb dX7_best_90 (by decide) ?_
                        refine lv_goto (tgt := 105) hx hb dX7_best_91 (by decide) ?_
                        refine zz_cv (WC := [(mo, .inr (7, [.ref ms, .ref mi, .ref ma, .int 0, .ref mts, .ref mtz, .ref mtn, .ref mh, .ref mhn, .ref mhw, .ref mhz, .ref mhr, .ref mcl, .ref mtp, .int 0, .int 0, .int 0, .int 0, .int 0, .int 0, .int 0, .int 0, .int 0, .int 0, .int 0, .ref mna, .ref mpi, .ref mca, .ref mwa, .int 0, .ref mrd])), (ms, .inl (kms, 3047, .inl vf))]) (TC := [(kms, .int)]) (WR := [(mcl, .inl (kcl, 47, .inl c9174))]) (TR := [(kcl, .int)]) (k := 0) (n := 0) Z218 [0, 1] [2] [0] [1] rfl rfl (by decide +kernel) (by decide +kernel) (by decide +kernel) rfl rfl (fun Zc => va_runV (As := [.int 0]) (rest := []) X (c7_goesOnBy l D mo ms mi ma mts mtz mtn mh mhn mhw mhz mhr mcl mtp mna mpi mca mwa mrd 0 0 0 0 0 0 0 0 0 0 0 0 0 kms vf 0 v2 0 0 v5 v6 v7 3 10 0 0 hin.1 hin.2.1 hin.2.2.1 hin.2.2.2.1 hin.2.2.2.2.1 hin.2.2.2.2.2.1 hin.2.2.2.2.2.2.1 hin.2.2.2.2.2.2.2.1 hin.2.2.2.2.2.2.2.2.1 hin.2.2.2.2.2.2.2.2.2.1 hin.2.2.2.2.2.2.2.2.2.2 H215.size) (cwV 1 hts gX7_best_X7_goesOnBy rfl rfl rfl ⟨rfl, zh_X7_goesOnBy⟩ ⟨Nat.le_of_ble_eq_true rfl, Nat.le_of_ble_eq_true rfl⟩) (zz_pV (ci := 7) Zc 0 rfl rfl) rfl rfl hl222.1 rfl (lv_room (Nat.le_of_ble_eq_true rfl)) dX7_best_105 ⟨Nat.le_of_ble_eq_true rfl, Nat.le_of_ble_eq_true rfl⟩) rfl rfl (fun u309 H235 locs236 hw310 Z237 => ?_)
                        clear Z218
                        obtain ⟨f9312, F9313, T9314, Z9315⟩ := u309
                        try dsimp only at hw310 Z237
                        obtain ⟨⟨p316, p317, p318, p319, p320, p321, p322, p323, p324, p325, p326⟩, hx327⟩ := hw310
                        obtain ⟨rfl, rfl, rfl⟩ := hx327
                        have Z238 : zz_S D A s [(mcl, .inl (kcl, 47, .inl c9174)), (mo, .inr (7, [.ref ms, .ref mi, .ref ma, .int 0, .ref mts, .ref mtz, .ref mtn, .ref mh, .ref mhn, .ref mhw, .ref mhz, .ref mhr, .ref mcl, .ref mtp, .int 0, .int 0, .int 0, .int 0, .int 0, .int 0, .int 0, .int 0, .int 0, .int 0, .int 0, .ref mna, .ref mpi, .ref mca, .ref mwa, .int 0, .ref mrd])), (ms, .inl (kms, 3047, .inl f9312))] [(kcl, .int), (kms, .int)] H235 locs236 := Z237
                        clear Z237
                        refine lv_iload hx hb dX7_best_108 (lv_at hl222 1 rfl) ?_
                        refine lv_iconst (v := 3) hx hb dX7_best_110 (by decide) ?_
                        refine lv_idiv hx hb dX7_best_111 (by decide) ?_
                        refine zz_v (v := nI (zz_pw t)) (zz_pw3 t (by omega)) ?_
                        refine lv_istore (lv' := [(7, .int (nI (zz_pw t))), (8, .int y267), (6, .int (nI i)), (5, .int 0), (4, .int 0), (3, .int 3), (0, .ref mo), (1, .int 2), (2, .int what)]) hx hb dX7_best_112 hl222 (by decide) rfl (fun ls239 hl240 => ?_)
                        clear hl222
                        refine lv_goto (tgt := 70) hx hb dX7_best_114 (by decide) ?_
                        exact iht (by omega) f9312 (v2 + 1) (zz_bT v5 v6 10) (zz_bZ v6 10) (zz_mF v7 0 v6 3 10) ⟨p316, p317, p318, p319, p320, p321, p322, p323, p324, p325, p326⟩ _ _ _ Z238 (lv_sub hl240 [0, 2, 3, 4, 5, 6, 7, 8] rfl)
                exact inner 2 (by decide) vf 0 0 1 0 ⟨hinv.1, hinv.2.1, hinv.2.2.1, hinv.2.2.2.1, hinv.2.2.2.2.1, hinv.2.2.2.2.2.1, hinv.2.2.2.2.2.2.1, hinv.2.2.2.2.2.2.2.1, hinv.2.2.2.2.2.2.2.2.1, hinv.2.2.2.2.2.2.2.2.2.1, hinv.2.2.2.2.2.2.2.2.2.2.1⟩ _ _ _ Z151 hl200
        exact loop 9 0 f (-1) (by omega) ⟨af_0, af_1, af_2, af_3, af_4, af_5, af_6, af_7, af_8, af_9, af_10, (Or.inl ⟨rfl, rfl⟩)⟩ _ _ _ Z136 hl142
      · refine zz_v (v := 0) (zz_wiF w170) ?_
        refine lv_if_ne (tgt := 25) hx hb dX7_best_19 (by decide) (fun h => absurd (by decide) h) (fun _ => ?_)
        refine lv_ldc (v := (-1000000001)) hx hb hown (hts _ (zz_m 2 rfl)) dX7_best_22 ?_
        exact zz_iret X hr hlk Z124 () (by simp [sp_best, w170]) [] [] (by decide +kernel) rfl rfl dX7_best_24
    · have e5 : n = 3 := e5
      subst e5
      refine zz_v (v := 1) (by decide) ?_
      refine lv_if_eq (tgt := 22) hx hb dX7_best_9 (by decide) (fun h => absurd h (by decide)) (fun _ => ?_)
      refine lv_iload_n hx hb dX7_best_12 rfl (lv_at hl 2 rfl) ?_
      refine lv_i2l (v := Int32.toInt64 what) hx hb dX7_best_13 rfl ?_
      refine lv_lconst (v := 0) hx hb dX7_best_14 (by decide) ?_
      refine zz_vl (v := Int32.toInt64 0) (by decide) ?_
      refine lv_lconst (v := 1) hx hb dX7_best_15 (by decide) ?_
      refine zz_vl (v := Int32.toInt64 1) (by decide) ?_
      refine zz_ci (WC := []) (TC := []) (WR := [(mo, .inr (7, [.ref ms, .ref mi, .ref ma, .int 0, .ref mts, .ref mtz, .ref mtn, .ref mh, .ref mhn, .ref mhw, .ref mhz, .ref mhr, .ref mcl, .ref mtp, .int 0, .int 0, .int 0, .int 0, .int 0, .int 0, .int 0, .int 0, .int 0, .int 0, .int 0, .ref mna, .ref mpi, .ref mca, .ref mwa, .int 0, .ref mrd])), (ms, .inl (kms, 3047, .inl f)), (mcl, .inl (kcl, 47, .inl cf))]) (TR := [(kms, .int), (kcl, .int)]) (k := 0) (n := 0) Z4 [] [0, 1, 2] [] [0, 1] rfl rfl (by decide +kernel) (by decide +kernel) (by decide +kernel) rfl rfl (fun Zc => va_runS (As := [.long (Int32.toInt64 what), .long (Int32.toInt64 0), .long (Int32.toInt64 1)]) (rest := []) X (c_isIn l D what 0 1 H1.size) (va_cwS 3 hts gX7_best_X7_isIn rfl rfl rfl zh_X7_isIn ⟨Nat.le_of_ble_eq_true rfl, Nat.le_of_ble_eq_true rfl⟩) (zz_pS Zc) rfl rfl hl.1 rfl (lv_room (Nat.le_of_ble_eq_true rfl)) dX7_best_16 ⟨Nat.le_of_ble_eq_true rfl, Nat.le_of_ble_eq_true rfl⟩) rfl rfl (fun r330 u328 H241 locs242 hw329 Z243 => ?_)
      clear Z4
      subst r330
      have Z244 : zz_S D A s [(mo, .inr (7, [.ref ms, .ref mi, .ref ma, .int 0, .ref mts, .ref mtz, .ref mtn, .ref mh, .ref mhn, .ref mhw, .ref mhz, .ref mhr, .ref mcl, .ref mtp, .int 0, .int 0, .int 0, .int 0, .int 0, .int 0, .int 0, .int 0, .int 0, .int 0, .int 0, .ref mna, .ref mpi, .ref mca, .ref mwa, .int 0, .ref mrd])), (ms, .inl (kms, 3047, .inl f)), (mcl, .inl (kcl, 47, .inl cf))] [(kms, .int), (kcl, .int)] H241 locs242 := Z243
      clear Z243
      by_cases w331 : 0 ≤ what ∧ what ≤ 1
      · refine zz_v (v := 1) (zz_wiT w331) ?_
        refine lv_if_ne (tgt := 25) hx hb dX7_best_19 (by decide) (fun _ => ?_) (fun h => absurd h (by decide))
        refine lv_iconst (v := 1) hx hb dX7_best_25 (by decide) ?_
        refine lv_istore_n (lv' := [(3, .int 1), (0, .ref mo), (1, .int 3), (2, .int what)]) hx hb dX7_best_26 rfl hl (by decide) rfl (fun ls245 hl246 => ?_)
        clear hl
        refine lv_iconst (v := 1) hx hb dX7_best_27 (by decide) ?_
        refine lv_istore (lv' := [(4, .int 1), (3, .int 1), (0, .ref mo), (1, .int 3), (2, .int what)]) hx hb dX7_best_28 hl246 (by decide) rfl (fun ls247 hl248 => ?_)
        clear hl246
        refine lv_iload hx hb dX7_best_30 (lv_at hl248 0 rfl) ?_
        refine lv_iload_n hx hb dX7_best_32 rfl (lv_at hl248 3 rfl) ?_
        refine lv_icmp_ge (tgt := 46) hx hb dX7_best_33 (by decide) (fun h => absurd h (by decide)) (fun _ => ?_)
        refine lv_iload_n hx hb dX7_best_36 rfl (lv_at hl248 1 rfl) ?_
        refine lv_iconst (v := 3) hx hb dX7_best_37 (by decide) ?_
        refine lv_imul hx hb dX7_best_38 ?_
        refine zz_v (v := 3) (by decide) ?_
        refine lv_istore_n (lv' := [(3, .int 3), (4, .int 1), (0, .ref mo), (1, .int 3), (2, .int what)]) hx hb dX7_best_39 rfl hl248 (by decide) rfl (fun ls249 hl250 => ?_)
        clear hl248
        refine lv_iinc (v := 2) (lv' := [(4, .int 2), (3, .int 3), (0, .ref mo), (1, .int 3), (2, .int what)]) hx hb dX7_best_40 hl250 (k := 1) rfl (by decide) (by decide) rfl (fun ls251 hl252 => ?_)
        clear hl250
        refine lv_goto (tgt := 30) hx hb dX7_best_43 (by decide) ?_
        refine lv_iload hx hb dX7_best_30 (lv_at hl252 0 rfl) ?_
        refine lv_iload_n hx hb dX7_best_32 rfl (lv_at hl252 3 rfl) ?_
        refine lv_icmp_ge (tgt := 46) hx hb dX7_best_33 (by decide) (fun h => absurd h (by decide)) (fun _ => ?_)
        refine lv_iload_n hx hb dX7_best_36 rfl (lv_at hl252 1 rfl) ?_
        refine lv_iconst (v := 3) hx hb dX7_best_37 (by decide) ?_
        refine lv_imul hx hb dX7_best_38 ?_
        refine zz_v (v := 9) (by decide) ?_
        refine lv_istore_n (lv' := [(3, .int 9), (4, .int 2), (0, .ref mo), (1, .int 3), (2, .int what)]) hx hb dX7_best_39 rfl hl252 (by decide) rfl (fun ls253 hl254 => ?_)
        clear hl252
        refine lv_iinc (v := 3) (lv' := [(4, .int 3), (3, .int 9), (0, .ref mo), (1, .int 3), (2, .int what)]) hx hb dX7_best_40 hl254 (k := 1) rfl (by decide) (by decide) rfl (fun ls255 hl256 => ?_)
        clear hl254
        refine lv_goto (tgt := 30) hx hb dX7_best_43 (by decide) ?_
        refine lv_iload hx hb dX7_best_30 (lv_at hl256 0 rfl) ?_
        refine lv_iload_n hx hb dX7_best_32 rfl (lv_at hl256 3 rfl) ?_
        refine lv_icmp_ge (tgt := 46) hx hb dX7_best_33 (by decide) (fun _ => ?_) (fun h => absurd (by decide) h)
        refine lv_aload_n hx hb dX7_best_46 rfl (lv_at hl256 2 rfl) ?_
        refine zz_cv (WC := [(mo, .inr (7, [.ref ms, .ref mi, .ref ma, .int 0, .ref mts, .ref mtz, .ref mtn, .ref mh, .ref mhn, .ref mhw, .ref mhz, .ref mhr, .ref mcl, .ref mtp, .int 0, .int 0, .int 0, .int 0, .int 0, .int 0, .int 0, .int 0, .int 0, .int 0, .int 0, .ref mna, .ref mpi, .ref mca, .ref mwa, .int 0, .ref mrd])), (ms, .inl (kms, 3047, .inl f)), (mcl, .inl (kcl, 47, .inl cf))]) (TC := [(kms, .int), (kcl, .int)]) (WR := []) (TR := []) (k := 0) (n := 0) Z244 [0, 1, 2] [] [0, 1] [] rfl rfl (by decide +kernel) (by decide +kernel) (by decide +kernel) rfl rfl (fun Zc => va_runV (As := []) (rest := []) X (c7_laysBy l D mo ms mi ma mts mtz mtn mh mhn mhw mhz mhr mcl mtp mna mpi mca mwa mrd 0 0 0 0 0 0 0 0 0 0 0 0 0 kms f kcl cf H241.size) (cwV 0 hts gX7_best_X7_laysBy rfl rfl rfl ⟨rfl, zh_X7_laysBy⟩ ⟨Nat.le_of_ble_eq_true rfl, Nat.le_of_ble_eq_true rfl⟩) (zz_pV (ci := 7) Zc 0 rfl rfl) rfl rfl hl256.1 rfl (lv_room (Nat.le_of_ble_eq_true rfl)) dX7_best_47 ⟨Nat.le_of_ble_eq_true rfl, Nat.le_of_ble_eq_true rfl⟩) rfl rfl (fun u332 H257 locs258 hw333 Z259 => ?_)
        clear Z244
        obtain ⟨c9335, rfl⟩ : ∃ z, z = u332 := ⟨_, rfl⟩
        try dsimp only at hw333 Z259
        have Z260 : zz_S D A s [(mo, .inr (7, [.ref ms, .ref mi, .ref ma, .int 0, .ref mts, .ref mtz, .ref mtn, .ref mh, .ref mhn, .ref mhw, .ref mhz, .ref mhr, .ref mcl, .ref mtp, .int 0, .int 0, .int 0, .int 0, .int 0, .int 0, .int 0, .int 0, .int 0, .int 0, .int 0, .ref mna, .ref mpi, .ref mca, .ref mwa, .int 0, .ref mrd])), (ms, .inl (kms, 3047, .inl f)), (mcl, .inl (kcl, 47, .inl c9335))] [(kms, .int), (kcl, .int)] H257 locs258 := Z259
        clear Z259
        refine lv_iconst (v := (-1)) hx hb dX7_best_50 (by decide) ?_
        refine lv_istore (lv' := [(4, .int (-1)), (3, .int 9), (0, .ref mo), (1, .int 3), (2, .int what)]) hx hb dX7_best_51 hl256 (by decide) rfl (fun ls261 hl262 => ?_)
        clear hl256
        refine lv_iconst (v := 0) hx hb dX7_best_53 (by decide) ?_
        refine lv_istore (lv' := [(5, .int 0), (4, .int (-1)), (3, .int 9), (0, .ref mo), (1, .int 3), (2, .int what)]) hx hb dX7_best_54 hl262 (by decide) rfl (fun ls263 hl264 => ?_)
        clear hl262
        refine lv_iconst (v := 0) hx hb dX7_best_56 (by decide) ?_
        refine lv_istore (lv' := [(6, .int 0), (5, .int 0), (4, .int (-1)), (3, .int 9), (0, .ref mo), (1, .int 3), (2, .int what)]) hx hb dX7_best_57 hl264 (by decide) rfl (fun ls265 hl266 => ?_)
        clear hl264
        have loop : ∀ (k i : Nat) (vf : Nat → Int32) (vb : Int32), i + k = 27 → (vf 0 = 0 ∧ vf 1 = 0 ∧ vf 2 = 0 ∧ vf 3 = 0 ∧ vf 4 = 0 ∧ vf 5 = 0 ∧ vf 6 = 1 ∧ vf 7 = 0 ∧ vf 8 = 3 ∧ vf 9 = 10 ∧ vf 10 = 0 ∧ ((i = 0 ∧ vb = -1) ∨ (0 < i ∧ vb = 0))) → ∀ (Hq : Heap) (Lq : List Loc) (lq : Array Slot), zz_S D A s [(mo, .inr (7, [.ref ms, .ref mi, .ref ma, .int 0, .ref mts, .ref mtz, .ref mtn, .ref mh, .ref mhn, .ref mhw, .ref mhz, .ref mhr, .ref mcl, .ref mtp, .int 0, .int 0, .int 0, .int 0, .int 0, .int 0, .int 0, .int 0, .int 0, .int 0, .int 0, .ref mna, .ref mpi, .ref mca, .ref mwa, .int 0, .ref mrd])), (ms, .inl (kms, 3047, .inl vf)), (mcl, .inl (kcl, 47, .inl c9335))] [(kms, .int), (kcl, .int)] Hq Lq → lv_has lq 9 [(6, .int (nI i)), (5, .int 0), (4, .int vb), (3, .int 9), (0, .ref mo), (1, .int 3), (2, .int what)] → W p l e (headSpec wsX7_best { frames := 3, cells := 0, slots := 0, locals := 64 }).room s m (List.toArray [.ref mo, .int 3, .int what]) below meth c Hq Lq 0 0 (MQ below (va_Qi (fun (r : Int32) (u : Unit) => r = sp_best 3 what) (fun u t => zz_B D A ((fun (u : Unit) => []) u) ((fun (u : Unit) => []) u) t) A) (List.toArray [.ref mo, .int 3, .int what]) s 0 0 A) (F0 m 59 lq []) := by
          intro k
          induction k with
          | zero =>
              intro i vf vb hik hinv H267 locs268 ls269 Z270 hl271
              rcases hinv.2.2.2.2.2.2.2.2.2.2.2 with ⟨h0, hv⟩ | ⟨h0, hv⟩
              · omega
              subst hv
              refine lv_iload hx hb dX7_best_59 (lv_at hl271 0 rfl) ?_
              refine lv_iconst (v := 3) hx hb dX7_best_61 (by decide) ?_
              refine lv_iload_n hx hb dX7_best_62 rfl (lv_at hl271 3 rfl) ?_
              refine lv_imul hx hb dX7_best_63 ?_
              refine zz_v (v := 27) (by decide) ?_
              refine lv_icmp_ge (tgt := 155) hx hb dX7_best_64 (by decide) (fun _ => ?_) (fun h => absurd (nI_le (a := 27) (b := i) (by omega) (by omega)) h)
              refine lv_iload_n hx hb dX7_best_155 rfl (lv_at hl271 6 rfl) ?_
              refine lv_if_ne (tgt := 164) hx hb dX7_best_156 (by decide) (fun b336 => ?_) (fun b336 => ?_)
              · refine lv_iload hx hb dX7_best_164 (lv_at hl271 1 rfl) ?_
                exact zz_iret X hr hlk Z270 () (by simp [sp_best, w331]) [] [] (by decide +kernel) rfl rfl dX7_best_166
              · refine lv_iload hx hb dX7_best_159 (lv_at hl271 2 rfl) ?_
                refine lv_goto (tgt := 166) hx hb dX7_best_161 (by decide) ?_
                exact zz_iret X hr hlk Z270 () (by simp [sp_best, w331]) [] [] (by decide +kernel) rfl rfl dX7_best_166
          | succ k ih =>
              intro i vf vb hik hinv H272 locs273 ls274 Z275 hl276
              rcases hinv.2.2.2.2.2.2.2.2.2.2.2 with ⟨h0, hv⟩ | ⟨h0, hv⟩
              · subst hv
                refine lv_iload hx hb dX7_best_59 (lv_at hl276 0 rfl) ?_
                refine lv_iconst (v := 3) hx hb dX7_best_61 (by decide) ?_
                refine lv_iload_n hx hb dX7_best_62 rfl (lv_at hl276 3 rfl) ?_
                refine lv_imul hx hb dX7_best_63 ?_
                refine zz_v (v := 27) (by decide) ?_
                refine lv_icmp_ge (tgt := 155) hx hb dX7_best_64 (by decide) (fun h => absurd h (nI_ge (a := i) (b := 27) (by omega) (by omega))) (fun _ => ?_)
                refine lv_iload_n hx hb dX7_best_67 rfl (lv_at hl276 3 rfl) ?_
                refine lv_istore (lv' := [(7, .int 9), (6, .int (nI i)), (5, .int 0), (4, .int (-1)), (3, .int 9), (0, .ref mo), (1, .int 3), (2, .int what)]) hx hb dX7_best_68 hl276 (by decide) rfl (fun ls277 hl278 => ?_)
                clear hl276
                have inner : ∀ (t : Nat), t ≤ 5 → ∀ (vf : Nat → Int32) (v2 v5 v6 v7 : Int32), vf 0 = 0 ∧ vf 1 = 0 ∧ vf 2 = v2 ∧ vf 3 = 0 ∧ vf 4 = 0 ∧ vf 5 = v5 ∧ vf 6 = v6 ∧ vf 7 = v7 ∧ vf 8 = 3 ∧ vf 9 = 10 ∧ vf 10 = 0 → ∀ (Hq : Heap) (Lq : List Loc) (lq : Array Slot), zz_S D A s [(mo, .inr (7, [.ref ms, .ref mi, .ref ma, .int 0, .ref mts, .ref mtz, .ref mtn, .ref mh, .ref mhn, .ref mhw, .ref mhz, .ref mhr, .ref mcl, .ref mtp, .int 0, .int 0, .int 0, .int 0, .int 0, .int 0, .int 0, .int 0, .int 0, .int 0, .int 0, .ref mna, .ref mpi, .ref mca, .ref mwa, .int 0, .ref mrd])), (ms, .inl (kms, 3047, .inl vf)), (mcl, .inl (kcl, 47, .inl c9335))] [(kms, .int), (kcl, .int)] Hq Lq → lv_has lq 9 [(7, .int (nI (zz_pw t))), (6, .int (nI i)), (5, .int 0), (4, .int (-1)), (3, .int 9), (0, .ref mo), (1, .int 3), (2, .int what)] → W p l e (headSpec wsX7_best { frames := 3, cells := 0, slots := 0, locals := 64 }).room s m (List.toArray [.ref mo, .int 3, .int what]) below meth c Hq Lq 0 0 (MQ below (va_Qi (fun (r : Int32) (u : Unit) => r = sp_best 3 what) (fun u t => zz_B D A ((fun (u : Unit) => []) u) ((fun (u : Unit) => []) u) t) A) (List.toArray [.ref mo, .int 3, .int what]) s 0 0 A) (F0 m 70 lq []) := by
                  intro t
                  induction t with
                  | zero =>
                      intro ht vf v2 v5 v6 v7 hin H279 locs280 ls281 Z282 hl283
                      have hl284 : lv_has ls281 9 [(7, .int 0), (6, .int (nI i)), (5, .int 0), (4, .int (-1)), (3, .int 9), (0, .ref mo), (1, .int 3), (2, .int what)] := hl283
                      clear hl283
                      refine lv_iload hx hb dX7_best_70 (lv_at hl284 0 rfl) ?_
                      refine lv_if_le (tgt := 117) hx hb dX7_best_72 (by decide) (fun _ => ?_) (fun h => absurd (by decide) h)
                      refine lv_aload_n hx hb dX7_best_117 rfl (lv_at hl284 5 rfl) ?_
                      refine zz_get X Z282 0 rfl rfl (fun w h => List.mem_cons_of_mem _ (List.mem_append_right _ h)) 0 rfl (zz_m 3 rfl) rfl dX7_best_118 ?_
                      refine lv_iconst (v := 4) hx hb dX7_best_121 (by decide) ?_
                      refine zz_ild X Z282 1 0 rfl rfl (zz_in 4 3047 rfl) dX7_best_122 ?_
                      refine zz_v (v := 0) hin.2.2.2.2.1 ?_
                      refine lv_istore (lv' := [(7, .int 0), (6, .int (nI i)), (5, .int 0), (4, .int (-1)), (3, .int 9), (0, .ref mo), (1, .int 3), (2, .int what)]) hx hb dX7_best_123 hl284 (by decide) rfl (fun ls285 hl286 => ?_)
                      clear hl284
                      refine lv_aload_n hx hb dX7_best_125 rfl (lv_at hl286 5 rfl) ?_
                      refine zz_cv (WC := [(mo, .inr (7, [.ref ms, .ref mi, .ref ma, .int 0, .ref mts, .ref mtz, .ref mtn, .ref mh, .ref mhn, .ref mhw, .ref mhz, .ref mhr, .ref mcl, .ref mtp, .int 0, .int 0, .int 0, .int 0, .int 0, .int 0, .int 0, .int 0, .int 0, .int 0, .int 0, .ref mna, .ref mpi, .ref mca, .ref mwa, .int 0, .ref mrd])), (ms, .inl (kms, 3047, .inl vf)), (mcl, .inl (kcl, 47, .inl c9335))]) (TC := [(kms, .int), (kcl, .int)]) (WR := []) (TR := []) (k := 0) (n := 0) Z282 [0, 1, 2] [] [0, 1] [] rfl rfl (by decide +kernel) (by decide +kernel) (by decide +kernel) rfl rfl (fun Zc => va_runV (As := []) (rest := []) X (c7_laysBack l D mo ms mi ma mts mtz mtn mh mhn mhw mhz mhr mcl mtp mna mpi mca mwa mrd 0 0 0 0 0 0 0 0 0 0 0 0 0 kms vf kcl c9335 H279.size) (cwV 0 hts gX7_best_X7_laysBack rfl rfl rfl ⟨rfl, zh_X7_laysBack⟩ ⟨Nat.le_of_ble_eq_true rfl, Nat.le_of_ble_eq_true rfl⟩) (zz_pV (ci := 7) Zc 0 rfl rfl) rfl rfl hl286.1 rfl (lv_room (Nat.le_of_ble_eq_true rfl)) dX7_best_126 ⟨Nat.le_of_ble_eq_true rfl, Nat.le_of_ble_eq_true rfl⟩) rfl rfl (fun u337 H287 locs288 hw338 Z289 => ?_)
                      clear Z282
                      obtain ⟨f9340, rfl⟩ : ∃ z, z = u337 := ⟨_, rfl⟩
                      try dsimp only at hw338 Z289
                      have Z290 : zz_S D A s [(mo, .inr (7, [.ref ms, .ref mi, .ref ma, .int 0, .ref mts, .ref mtz, .ref mtn, .ref mh, .ref mhn, .ref mhw, .ref mhz, .ref mhr, .ref mcl, .ref mtp, .int 0, .int 0, .int 0, .int 0, .int 0, .int 0, .int 0, .int 0, .int 0, .int 0, .int 0, .ref mna, .ref mpi, .ref mca, .ref mwa, .int 0, .ref mrd])), (ms, .inl (kms, 3047, .inl f9340)), (mcl, .inl (kcl, 47, .inl c9335))] [(kms, .int), (kcl, .int)] H287 locs288 := Z289
                      clear Z289
                      have p341 : f9340 0 = 0 := (hw338 0 (by decide)).trans ((hw333 0 (by decide)).trans af_0)
                      have p342 : f9340 1 = 0 := (hw338 1 (by decide)).trans ((hw333 1 (by decide)).trans af_1)
                      have p343 : f9340 2 = 0 := (hw338 2 (by decide)).trans ((hw333 2 (by decide)).trans af_2)
                      have p344 : f9340 3 = 0 := (hw338 3 (by decide)).trans ((hw333 3 (by decide)).trans af_3)
                      have p345 : f9340 4 = 0 := (hw338 4 (by decide)).trans ((hw333 4 (by decide)).trans af_4)
                      have p346 : f9340 5 = 0 := (hw338 5 (by decide)).trans ((hw333 5 (by decide)).trans af_5)
                      have p347 : f9340 6 = 1 := (hw338 6 (by decide)).trans ((hw333 6 (by decide)).trans af_6)
                      have p348 : f9340 7 = 0 := (hw338 7 (by decide)).trans ((hw333 7 (by decide)).trans af_7)
                      have p349 : f9340 8 = 3 := (hw338 8 (by decide)).trans ((hw333 8 (by decide)).trans af_8)
                      have p350 : f9340 9 = 10 := (hw338 9 (by decide)).trans ((hw333 9 (by decide)).trans af_9)
                      have p351 : f9340 10 = 0 := (hw338 10 (by decide)).trans ((hw333 10 (by decide)).trans af_10)
                      refine lv_iload hx hb dX7_best_129 (lv_at hl286 3 rfl) ?_
                      refine lv_if_lt (tgt := 141) hx hb dX7_best_131 (by decide) (fun _ => ?_) (fun h => absurd (by decide) h)
                      refine lv_iload hx hb dX7_best_141 (lv_at hl286 1 rfl) ?_
                      refine lv_istore (lv' := [(4, .int (nI i)), (7, .int 0), (6, .int (nI i)), (5, .int 0), (3, .int 9), (0, .ref mo), (1, .int 3), (2, .int what)]) hx hb dX7_best_143 hl286 (by decide) rfl (fun ls291 hl292 => ?_)
                      clear hl286
                      refine lv_iload hx hb dX7_best_145 (lv_at hl292 1 rfl) ?_
                      refine lv_istore (lv' := [(5, .int 0), (4, .int (nI i)), (7, .int 0), (6, .int (nI i)), (3, .int 9), (0, .ref mo), (1, .int 3), (2, .int what)]) hx hb dX7_best_147 hl292 (by decide) rfl (fun ls293 hl294 => ?_)
                      clear hl292
                      refine lv_iinc (v := nI (i + 1)) (lv' := [(6, .int (nI (i + 1))), (5, .int 0), (4, .int (nI i)), (7, .int 0), (3, .int 9), (0, .ref mo), (1, .int 3), (2, .int what)]) hx hb dX7_best_149 hl294 (k := 3) rfl (nI_1 i) (by decide) rfl (fun ls295 hl296 => ?_)
                      clear hl294
                      refine lv_goto (tgt := 59) hx hb dX7_best_152 (by decide) ?_
                      exact ih (i + 1) f9340 (nI i) (by omega) ⟨p341, p342, p343, p344, p345, p346, p347, p348, p349, p350, p351, (Or.inr ⟨by omega, by rw [h0]; rfl⟩)⟩ _ _ _ Z290 (lv_sub hl296 [0, 1, 2, 4, 5, 6, 7] rfl)
                  | succ t iht =>
                      intro ht vf v2 v5 v6 v7 hin H297 locs298 ls299 Z300 hl301
                      have hl302 : lv_has ls299 9 [(7, .int (nI (zz_pw (t + 1)))), (6, .int (nI i)), (5, .int 0), (4, .int (-1)), (3, .int 9), (0, .ref mo), (1, .int 3), (2, .int what)] := hl301
                      clear hl301
                      refine lv_iload hx hb dX7_best_70 (lv_at hl302 0 rfl) ?_
                      refine lv_if_le (tgt := 117) hx hb dX7_best_72 (by decide) (fun h => absurd h (nI_nle (zz_pwP t (by omega)).1 (zz_pwP t (by omega)).2)) (fun _ => ?_)
                      refine lv_iload hx hb dX7_best_75 (lv_at hl302 1 rfl) ?_
                      refine lv_iload hx hb dX7_best_77 (lv_at hl302 0 rfl) ?_
                      refine lv_idiv hx hb dX7_best_79 (nI_ne0 (zz_pwP t (by omega)).1 (zz_pwP t (by omega)).2) ?_
                      refine lv_iconst (v := 3) hx hb dX7_best_80 (by decide) ?_
                      refine lv_irem hx hb dX7_best_81 (by decide) ?_
                      refine lv_topi (fun y352 ey353 => ?_)
                      refine lv_istore (lv' := [(8, .int y352), (7, .int (nI (zz_pw (t + 1)))), (6, .int (nI i)), (5, .int 0), (4, .int (-1)), (3, .int 9), (0, .ref mo), (1, .int 3), (2, .int what)]) hx hb dX7_best_82 hl302 (by decide) rfl (fun ls303 hl304 => ?_)
                      clear hl302
                      refine lv_aload_n hx hb dX7_best_84 rfl (lv_at hl304 6 rfl) ?_
                      refine lv_iload hx hb dX7_best_85 (lv_at hl304 0 rfl) ?_
                      refine lv_if_ne (tgt := 94) hx hb dX7_best_87 (by decide) (fun b354 => ?_) (fun b354 => ?_)
                      · refine lv_iload hx hb dX7_best_94 (lv_at hl304 0 rfl) ?_
                        refine lv_iconst (v := 1) hx hb dX7_best_96 (by decide) ?_
                        refine lv_icmp_ne (tgt := 104) hx hb dX7_best_97 (by decide) (fun b355 => ?_) (fun b355 => ?_)
                        · refine lv_iconst (v := 1) hx hb dX7_best_104 (by decide) ?_
                          refine zz_cv (WC := [(mo, .inr (7, [.ref ms, .ref mi, .ref ma, .int 0, .ref mts, .ref mtz, .ref mtn, .ref mh, .ref mhn, .ref mhw, .ref mhz, .ref mhr, .ref mcl, .ref mtp, .int 0, .int 0, .int 0, .int 0, .int 0, .int 0, .int 0, .int 0, .int 0, .int 0, .int 0, .ref mna, .ref mpi, .ref mca, .ref mwa, .int 0, .ref mrd])), (ms, .inl (kms, 3047, .inl vf))]) (TC := [(kms, .int)]) (WR := [(mcl, .inl (kcl, 47, .inl c9335))]) (TR := [(kcl, .int)]) (k := 0) (n := 0) Z300 [0, 1] [2] [0] [1] rfl rfl (by decide +kernel) (by decide +kernel) (by decide +kernel) rfl rfl (fun Zc => va_runV (As := [.int 1]) (rest := []) X (c7_goesOnBy l D mo ms mi ma mts mtz mtn mh mhn mhw mhz mhr mcl mtp mna mpi mca mwa mrd 0 0 0 0 0 0 0 0 0 0 0 0 0 kms vf 0 v2 0 0 v5 v6 v7 3 10 0 1 hin.1 hin.2.1 hin.2.2.1 hin.2.2.2.1 hin.2.2.2.2.1 hin.2.2.2.2.2.1 hin.2.2.2.2.2.2.1 hin.2.2.2.2.2.2.2.1 hin.2.2.2.2.2.2.2.2.1 hin.2.2.2.2.2.2.2.2.2.1 hin.2.2.2.2.2.2.2.2.2.2 H297.size) (cwV 1 hts gX7_best_X7_goesOnBy rfl rfl rfl ⟨rfl, zh_X7_goesOnBy⟩ ⟨Nat.le_of_ble_eq_true rfl, Nat.le_of_ble_eq_true rfl⟩) (zz_pV (ci := 7) Zc 0 rfl rfl) rfl rfl hl304.1 rfl (lv_room (Nat.le_of_ble_eq_true rfl)) dX7_best_105 ⟨Nat.le_of_ble_eq_true rfl, Nat.le_of_ble_eq_true rfl⟩) rfl rfl (fun u356 H305 locs306 hw357 Z307 => ?_)
                          clear Z300
                          obtain ⟨f9359, F9360, T9361, Z9362⟩ := u356
                          try dsimp only at hw357 Z307
                          obtain ⟨⟨p363, p364, p365, p366, p367, p368, p369, p370, p371, p372, p373⟩, hx374⟩ := hw357
                          obtain ⟨rfl, rfl, rfl⟩ := hx374
                          have Z308 : zz_S D A s [(mcl, .inl (kcl, 47, .inl c9335)), (mo, .inr (7, [.ref ms, .ref mi, .ref ma, .int 0, .ref mts, .ref mtz, .ref mtn, .ref mh, .ref mhn, .ref mhw, .ref mhz, .ref mhr, .ref mcl, .ref mtp, .int 0, .int 0, .int 0, .int 0, .int 0, .int 0, .int 0, .int 0, .int 0, .int 0, .int 0, .ref mna, .ref mpi, .ref mca, .ref mwa, .int 0, .ref mrd])), (ms, .inl (kms, 3047, .inl f9359))] [(kcl, .int), (kms, .int)] H305 locs306 := Z307
                          clear Z307
                          refine lv_iload hx hb dX7_best_108 (lv_at hl304 1 rfl) ?_
                          refine lv_iconst (v := 3) hx hb dX7_best_110 (by decide) ?_
                          refine lv_idiv hx hb dX7_best_111 (by decide) ?_
                          refine zz_v (v := nI (zz_pw t)) (zz_pw3 t (by omega)) ?_
                          refine lv_istore (lv' := [(7, .int (nI (zz_pw t))), (8, .int y352), (6, .int (nI i)), (5, .int 0), (4, .int (-1)), (3, .int 9), (0, .ref mo), (1, .int 3), (2, .int what)]) hx hb dX7_best_112 hl304 (by decide) rfl (fun ls309 hl310 => ?_)
                          clear hl304
                          refine lv_goto (tgt := 70) hx hb dX7_best_114 (by decide) ?_
                          exact iht (by omega) f9359 (v2 + 1) (zz_bT v5 v6 10) (zz_bZ v6 10) (zz_mF v7 1 v6 3 10) ⟨p363, p364, p365, p366, p367, p368, p369, p370, p371, p372, p373⟩ _ _ _ Z308 (lv_sub hl310 [0, 2, 3, 4, 5, 6, 7, 8] rfl)
                        · refine lv_iconst (v := (-1)) hx hb dX7_best_100 (by decide) ?_
                          refine lv_goto (tgt := 105) hx hb dX7_best_101 (by decide) ?_
                          refine zz_cv (WC := [(mo, .inr (7, [.ref ms, .ref mi, .ref ma, .int 0, .ref mts, .ref mtz, .ref mtn, .ref mh, .ref mhn, .ref mhw, .ref mhz, .ref mhr, .ref mcl, .ref mtp, .int 0, .int 0, .int 0, .int 0, .int 0, .int 0, .int 0, .int 0, .int 0, .int 0, .int 0, .ref mna, .ref mpi, .ref mca, .ref mwa, .int 0, .ref mrd])), (ms, .inl (kms, 3047, .inl vf))]) (TC := [(kms, .int)]) (WR := [(mcl, .inl (kcl, 47, .inl c9335))]) (TR := [(kcl, .int)]) (k := 0) (n := 0) Z300 [0, 1] [2] [0] [1] rfl rfl (by decide +kernel) (by decide +kernel) (by decide +kernel) rfl rfl (fun Zc => va_runV (As := [.int (-1)]) (rest := []) X (c7_goesOnBy l D mo ms mi ma mts mtz mtn mh mhn mhw mhz mhr mcl mtp mna mpi mca mwa mrd 0 0 0 0 0 0 0 0 0 0 0 0 0 kms vf 0 v2 0 0 v5 v6 v7 3 10 0 (-1) hin.1 hin.2.1 hin.2.2.1 hin.2.2.2.1 hin.2.2.2.2.1 hin.2.2.2.2.2.1 hin.2.2.2.2.2.2.1 hin.2.2.2.2.2.2.2.1 hin.2.2.2.2.2.2.2.2.1 hin.2.2.2.2.2.2.2.2.2.1 hin.2.2.2.2.2.2.2.2.2.2 H297.size) (cwV 1 hts gX7_best_X7_goesOnBy rfl rfl rfl ⟨rfl, zh_X7_goesOnBy⟩ ⟨Nat.le_of_ble_eq_true rfl, Nat.le_of_ble_eq_true rfl⟩) (zz_pV (ci := 7) Zc 0 rfl rfl) rfl rfl hl304.1 rfl (lv_room (Nat.le_of_ble_eq_true rfl)) dX7_best_105 ⟨Nat.le_of_ble_eq_true rfl, Nat.le_of_ble_eq_true rfl⟩) rfl rfl (fun u375 H311 locs312 hw376 Z313 => ?_)
                          clear Z300
                          obtain ⟨f9378, F9379, T9380, Z9381⟩ := u375
                          try dsimp only at hw376 Z313
                          obtain ⟨⟨p382, p383, p384, p385, p386, p387, p388, p389, p390, p391, p392⟩, hx393⟩ := hw376
                          obtain ⟨rfl, rfl, rfl⟩ := hx393
                          have Z314 : zz_S D A s [(mcl, .inl (kcl, 47, .inl c9335)), (mo, .inr (7, [.ref ms, .ref mi, .ref ma, .int 0, .ref mts, .ref mtz, .ref mtn, .ref mh, .ref mhn, .ref mhw, .ref mhz, .ref mhr, .ref mcl, .ref mtp, .int 0, .int 0, .int 0, .int 0, .int 0, .int 0, .int 0, .int 0, .int 0, .int 0, .int 0, .ref mna, .ref mpi, .ref mca, .ref mwa, .int 0, .ref mrd])), (ms, .inl (kms, 3047, .inl f9378))] [(kcl, .int), (kms, .int)] H311 locs312 := Z313
                          clear Z313
                          refine lv_iload hx hb dX7_best_108 (lv_at hl304 1 rfl) ?_
                          refine lv_iconst (v := 3) hx hb dX7_best_110 (by decide) ?_
                          refine lv_idiv hx hb dX7_best_111 (by decide) ?_
                          refine zz_v (v := nI (zz_pw t)) (zz_pw3 t (by omega)) ?_
                          refine lv_istore (lv' := [(7, .int (nI (zz_pw t))), (8, .int y352), (6, .int (nI i)), (5, .int 0), (4, .int (-1)), (3, .int 9), (0, .ref mo), (1, .int 3), (2, .int what)]) hx hb dX7_best_112 hl304 (by decide) rfl (fun ls315 hl316 => ?_)
                          clear hl304
                          refine lv_goto (tgt := 70) hx hb dX7_best_114 (by decide) ?_
                          exact iht (by omega) f9378 (v2 + 1) (zz_bT v5 v6 10) (zz_bZ v6 10) (zz_mF v7 (-1) v6 3 10) ⟨p382, p383, p384, p385, p386, p387, p388, p389, p390, p391, p392⟩ _ _ _ Z314 (lv_sub hl316 [0, 2, 3, 4, 5, 6, 7, 8] rfl)
                      · refine lv_iconst (v := 0) hx hb dX7_best_90 (by decide) ?_
                        refine lv_goto (tgt := 105) hx hb dX7_best_91 (by decide) ?_
                        refine zz_cv (WC := [(mo, .inr (7, [.ref ms, .ref mi, .ref ma, .int 0, .ref mts, .ref mtz, .ref mtn, .ref mh, .ref mhn, .ref mhw, .ref mhz, .ref mhr, .ref mcl, .ref mtp, .int 0, .int 0, .int 0, .int 0, .int 0, .int 0, .int 0, .int 0, .int 0, .int 0, .int 0, .ref mna, .ref mpi, .ref mca, .ref mwa, .int 0, .ref mrd])), (ms, .inl (kms, 3047, .inl vf))]) (TC := [(kms, .int)]) (WR := [(mcl, .inl (kcl, 47, .inl c9335))]) (TR := [(kcl, .int)]) (k := 0) (n := 0) Z300 [0, 1] [2] [0] [1] rfl rfl (by decide +kernel) (by decide +kernel) (by decide +kernel) rfl rfl (fun Zc => va_runV (As := [.int 0]) (rest := []) X (c7_goesOnBy l D mo ms mi ma mts mtz mtn mh mhn mhw mhz mhr mcl mtp mna mpi mca mwa mrd 0 0 0 0 0 0 0 0 0 0 0 0 0 kms vf 0 v2 0 0 v5 v6 v7 3 10 0 0 hin.1 hin.2.1 hin.2.2.1 hin.2.2.2.1 hin.2.2.2.2.1 hin.2.2.2.2.2.1 hin.2.2.2.2.2.2.1 hin.2.2.2.2.2.2.2.1 hin.2.2.2.2.2.2.2.2.1 hin.2.2.2.2.2.2.2.2.2.1 hin.2.2.2.2.2.2.2.2.2.2 H297.size) (cwV 1 hts gX7_best_X7_goesOnBy rfl rfl rfl ⟨rfl, zh_X7_goesOnBy⟩ ⟨Nat.le_of_ble_eq_true rfl, Nat.le_of_ble_eq_true rfl⟩) (zz_pV (ci := 7) Zc 0 rfl rfl) rfl rfl hl304.1 rfl (lv_room (Nat.le_of_ble_eq_true rfl)) dX7_best_105 ⟨Nat.le_of_ble_eq_true rfl, Nat.le_of_ble_eq_true rfl⟩) rfl rfl (fun u394 H317 locs318 hw395 Z319 => ?_)
                        clear Z300
                        obtain ⟨f9397, F9398, T9399, Z9400⟩ := u394
                        try dsimp only at hw395 Z319
                        obtain ⟨⟨p401, p402, p403, p404, p405, p406, p407, p408, p409, p410, p411⟩, hx412⟩ := hw395
                        obtain ⟨rfl, rfl, rfl⟩ := hx412
                        have Z320 : zz_S D A s [(mcl, .inl (kcl, 47, .inl c9335)), (mo, .inr (7, [.ref ms, .ref mi, .ref ma, .int 0, .ref mts, .ref mtz, .ref mtn, .ref mh, .ref mhn, .ref mhw, .ref mhz, .ref mhr, .ref mcl, .ref mtp, .int 0, .int 0, .int 0, .int 0, .int 0, .int 0, .int 0, .int 0, .int 0, .int 0, .int 0, .ref mna, .ref mpi, .ref mca, .ref mwa, .int 0, .ref mrd])), (ms, .inl (kms, 3047, .inl f9397))] [(kcl, .int), (kms, .int)] H317 locs318 := Z319
                        clear Z319
                        refine lv_iload hx hb dX7_best_108 (lv_at hl304 1 rfl) ?_
                        refine lv_iconst (v := 3) hx hb dX7_best_110 (by decide) ?_
                        refine lv_idiv hx hb dX7_best_111 (by decide) ?_
                        refine zz_v (v := nI (zz_pw t)) (zz_pw3 t (by omega)) ?_
                        refine lv_istore (lv' := [(7, .int (nI (zz_pw t))), (8, .int y352), (6, .int (nI i)), (5, .int 0), (4, .int (-1)), (3, .int 9), (0, .ref mo), (1, .int 3), (2, .int what)]) hx hb dX7_best_112 hl304 (by decide) rfl (fun ls321 hl322 => ?_)
                        clear hl304
                        refine lv_goto (tgt := 70) hx hb dX7_best_114 (by decide) ?_
                        exact iht (by omega) f9397 (v2 + 1) (zz_bT v5 v6 10) (zz_bZ v6 10) (zz_mF v7 0 v6 3 10) ⟨p401, p402, p403, p404, p405, p406, p407, p408, p409, p410, p411⟩ _ _ _ Z320 (lv_sub hl322 [0, 2, 3, 4, 5, 6, 7, 8] rfl)
                exact inner 3 (by decide) vf 0 0 1 0 ⟨hinv.1, hinv.2.1, hinv.2.2.1, hinv.2.2.2.1, hinv.2.2.2.2.1, hinv.2.2.2.2.2.1, hinv.2.2.2.2.2.2.1, hinv.2.2.2.2.2.2.2.1, hinv.2.2.2.2.2.2.2.2.1, hinv.2.2.2.2.2.2.2.2.2.1, hinv.2.2.2.2.2.2.2.2.2.2.1⟩ _ _ _ Z275 hl278
              · subst hv
                refine lv_iload hx hb dX7_best_59 (lv_at hl276 0 rfl) ?_
                refine lv_iconst (v := 3) hx hb dX7_best_61 (by decide) ?_
                refine lv_iload_n hx hb dX7_best_62 rfl (lv_at hl276 3 rfl) ?_
                refine lv_imul hx hb dX7_best_63 ?_
                refine zz_v (v := 27) (by decide) ?_
                refine lv_icmp_ge (tgt := 155) hx hb dX7_best_64 (by decide) (fun h => absurd h (nI_ge (a := i) (b := 27) (by omega) (by omega))) (fun _ => ?_)
                refine lv_iload_n hx hb dX7_best_67 rfl (lv_at hl276 3 rfl) ?_
                refine lv_istore (lv' := [(7, .int 9), (6, .int (nI i)), (5, .int 0), (4, .int 0), (3, .int 9), (0, .ref mo), (1, .int 3), (2, .int what)]) hx hb dX7_best_68 hl276 (by decide) rfl (fun ls323 hl324 => ?_)
                clear hl276
                have inner : ∀ (t : Nat), t ≤ 5 → ∀ (vf : Nat → Int32) (v2 v5 v6 v7 : Int32), vf 0 = 0 ∧ vf 1 = 0 ∧ vf 2 = v2 ∧ vf 3 = 0 ∧ vf 4 = 0 ∧ vf 5 = v5 ∧ vf 6 = v6 ∧ vf 7 = v7 ∧ vf 8 = 3 ∧ vf 9 = 10 ∧ vf 10 = 0 → ∀ (Hq : Heap) (Lq : List Loc) (lq : Array Slot), zz_S D A s [(mo, .inr (7, [.ref ms, .ref mi, .ref ma, .int 0, .ref mts, .ref mtz, .ref mtn, .ref mh, .ref mhn, .ref mhw, .ref mhz, .ref mhr, .ref mcl, .ref mtp, .int 0, .int 0, .int 0, .int 0, .int 0, .int 0, .int 0, .int 0, .int 0, .int 0, .int 0, .ref mna, .ref mpi, .ref mca, .ref mwa, .int 0, .ref mrd])), (ms, .inl (kms, 3047, .inl vf)), (mcl, .inl (kcl, 47, .inl c9335))] [(kms, .int), (kcl, .int)] Hq Lq → lv_has lq 9 [(7, .int (nI (zz_pw t))), (6, .int (nI i)), (5, .int 0), (4, .int 0), (3, .int 9), (0, .ref mo), (1, .int 3), (2, .int what)] → W p l e (headSpec wsX7_best { frames := 3, cells := 0, slots := 0, locals := 64 }).room s m (List.toArray [.ref mo, .int 3, .int what]) below meth c Hq Lq 0 0 (MQ below (va_Qi (fun (r : Int32) (u : Unit) => r = sp_best 3 what) (fun u t => zz_B D A ((fun (u : Unit) => []) u) ((fun (u : Unit) => []) u) t) A) (List.toArray [.ref mo, .int 3, .int what]) s 0 0 A) (F0 m 70 lq []) := by
                  intro t
                  induction t with
                  | zero =>
                      intro ht vf v2 v5 v6 v7 hin H325 locs326 ls327 Z328 hl329
                      have hl330 : lv_has ls327 9 [(7, .int 0), (6, .int (nI i)), (5, .int 0), (4, .int 0), (3, .int 9), (0, .ref mo), (1, .int 3), (2, .int what)] := hl329
                      clear hl329
                      refine lv_iload hx hb dX7_best_70 (lv_at hl330 0 rfl) ?_
                      refine lv_if_le (tgt := 117) hx hb dX7_best_72 (by decide) (fun _ => ?_) (fun h => absurd (by decide) h)
                      refine lv_aload_n hx hb dX7_best_117 rfl (lv_at hl330 5 rfl) ?_
                      refine zz_get X Z328 0 rfl rfl (fun w h => List.mem_cons_of_mem _ (List.mem_append_right _ h)) 0 rfl (zz_m 3 rfl) rfl dX7_best_118 ?_
                      refine lv_iconst (v := 4) hx hb dX7_best_121 (by decide) ?_
                      refine zz_ild X Z328 1 0 rfl rfl (zz_in 4 3047 rfl) dX7_best_122 ?_
                      refine zz_v (v := 0) hin.2.2.2.2.1 ?_
                      refine lv_istore (lv' := [(7, .int 0), (6, .int (nI i)), (5, .int 0), (4, .int 0), (3, .int 9), (0, .ref mo), (1, .int 3), (2, .int what)]) hx hb dX7_best_123 hl330 (by decide) rfl (fun ls331 hl332 => ?_)
                      clear hl330
                      refine lv_aload_n hx hb dX7_best_125 rfl (lv_at hl332 5 rfl) ?_
                      refine zz_cv (WC := [(mo, .inr (7, [.ref ms, .ref mi, .ref ma, .int 0, .ref mts, .ref mtz, .ref mtn, .ref mh, .ref mhn, .ref mhw, .ref mhz, .ref mhr, .ref mcl, .ref mtp, .int 0, .int 0, .int 0, .int 0, .int 0, .int 0, .int 0, .int 0, .int 0, .int 0, .int 0, .ref mna, .ref mpi, .ref mca, .ref mwa, .int 0, .ref mrd])), (ms, .inl (kms, 3047, .inl vf)), (mcl, .inl (kcl, 47, .inl c9335))]) (TC := [(kms, .int), (kcl, .int)]) (WR := []) (TR := []) (k := 0) (n := 0) Z328 [0, 1, 2] [] [0, 1] [] rfl rfl (by decide +kernel) (by decide +kernel) (by decide +kernel) rfl rfl (fun Zc => va_runV (As := []) (rest := []) X (c7_laysBack l D mo ms mi ma mts mtz mtn mh mhn mhw mhz mhr mcl mtp mna mpi mca mwa mrd 0 0 0 0 0 0 0 0 0 0 0 0 0 kms vf kcl c9335 H325.size) (cwV 0 hts gX7_best_X7_laysBack rfl rfl rfl ⟨rfl, zh_X7_laysBack⟩ ⟨Nat.le_of_ble_eq_true rfl, Nat.le_of_ble_eq_true rfl⟩) (zz_pV (ci := 7) Zc 0 rfl rfl) rfl rfl hl332.1 rfl (lv_room (Nat.le_of_ble_eq_true rfl)) dX7_best_126 ⟨Nat.le_of_ble_eq_true rfl, Nat.le_of_ble_eq_true rfl⟩) rfl rfl (fun u413 H333 locs334 hw414 Z335 => ?_)
                      clear Z328
                      obtain ⟨f9416, rfl⟩ : ∃ z, z = u413 := ⟨_, rfl⟩
                      try dsimp only at hw414 Z335
                      have Z336 : zz_S D A s [(mo, .inr (7, [.ref ms, .ref mi, .ref ma, .int 0, .ref mts, .ref mtz, .ref mtn, .ref mh, .ref mhn, .ref mhw, .ref mhz, .ref mhr, .ref mcl, .ref mtp, .int 0, .int 0, .int 0, .int 0, .int 0, .int 0, .int 0, .int 0, .int 0, .int 0, .int 0, .ref mna, .ref mpi, .ref mca, .ref mwa, .int 0, .ref mrd])), (ms, .inl (kms, 3047, .inl f9416)), (mcl, .inl (kcl, 47, .inl c9335))] [(kms, .int), (kcl, .int)] H333 locs334 := Z335
                      clear Z335
                      have p417 : f9416 0 = 0 := (hw414 0 (by decide)).trans ((hw333 0 (by decide)).trans af_0)
                      have p418 : f9416 1 = 0 := (hw414 1 (by decide)).trans ((hw333 1 (by decide)).trans af_1)
                      have p419 : f9416 2 = 0 := (hw414 2 (by decide)).trans ((hw333 2 (by decide)).trans af_2)
                      have p420 : f9416 3 = 0 := (hw414 3 (by decide)).trans ((hw333 3 (by decide)).trans af_3)
                      have p421 : f9416 4 = 0 := (hw414 4 (by decide)).trans ((hw333 4 (by decide)).trans af_4)
                      have p422 : f9416 5 = 0 := (hw414 5 (by decide)).trans ((hw333 5 (by decide)).trans af_5)
                      have p423 : f9416 6 = 1 := (hw414 6 (by decide)).trans ((hw333 6 (by decide)).trans af_6)
                      have p424 : f9416 7 = 0 := (hw414 7 (by decide)).trans ((hw333 7 (by decide)).trans af_7)
                      have p425 : f9416 8 = 3 := (hw414 8 (by decide)).trans ((hw333 8 (by decide)).trans af_8)
                      have p426 : f9416 9 = 10 := (hw414 9 (by decide)).trans ((hw333 9 (by decide)).trans af_9)
                      have p427 : f9416 10 = 0 := (hw414 10 (by decide)).trans ((hw333 10 (by decide)).trans af_10)
                      refine lv_iload hx hb dX7_best_129 (lv_at hl332 3 rfl) ?_
                      refine lv_if_lt (tgt := 141) hx hb dX7_best_131 (by decide) (fun h => absurd h (by decide)) (fun _ => ?_)
                      refine lv_iload hx hb dX7_best_134 (lv_at hl332 0 rfl) ?_
                      refine lv_iload hx hb dX7_best_136 (lv_at hl332 2 rfl) ?_
                      refine lv_icmp_ge (tgt := 149) hx hb dX7_best_138 (by decide) (fun _ => ?_) (fun h => absurd (by decide) h)
                      refine lv_iinc (v := nI (i + 1)) (lv' := [(6, .int (nI (i + 1))), (7, .int 0), (5, .int 0), (4, .int 0), (3, .int 9), (0, .ref mo), (1, .int 3), (2, .int what)]) hx hb dX7_best_149 hl332 (k := 1) rfl (nI_1 i) (by decide) rfl (fun ls337 hl338 => ?_)
                      clear hl332
                      refine lv_goto (tgt := 59) hx hb dX7_best_152 (by decide) ?_
                      exact ih (i + 1) f9416 0 (by omega) ⟨p417, p418, p419, p420, p421, p422, p423, p424, p425, p426, p427, (Or.inr ⟨by omega, rfl⟩)⟩ _ _ _ Z336 (lv_sub hl338 [0, 2, 3, 4, 5, 6, 7] rfl)
                  | succ t iht =>
                      intro ht vf v2 v5 v6 v7 hin H339 locs340 ls341 Z342 hl343
                      have hl344 : lv_has ls341 9 [(7, .int (nI (zz_pw (t + 1)))), (6, .int (nI i)), (5, .int 0), (4, .int 0), (3, .int 9), (0, .ref mo), (1, .int 3), (2, .int what)] := hl343
                      clear hl343
                      refine lv_iload hx hb dX7_best_70 (lv_at hl344 0 rfl) ?_
                      refine lv_if_le (tgt := 117) hx hb dX7_best_72 (by decide) (fun h => absurd h (nI_nle (zz_pwP t (by omega)).1 (zz_pwP t (by omega)).2)) (fun _ => ?_)
                      refine lv_iload hx hb dX7_best_75 (lv_at hl344 1 rfl) ?_
                      refine lv_iload hx hb dX7_best_77 (lv_at hl344 0 rfl) ?_
                      refine lv_idiv hx hb dX7_best_79 (nI_ne0 (zz_pwP t (by omega)).1 (zz_pwP t (by omega)).2) ?_
                      refine lv_iconst (v := 3) hx hb dX7_best_80 (by decide) ?_
                      refine lv_irem hx hb dX7_best_81 (by decide) ?_
                      refine lv_topi (fun y428 ey429 => ?_)
                      refine lv_istore (lv' := [(8, .int y428), (7, .int (nI (zz_pw (t + 1)))), (6, .int (nI i)), (5, .int 0), (4, .int 0), (3, .int 9), (0, .ref mo), (1, .int 3), (2, .int what)]) hx hb dX7_best_82 hl344 (by decide) rfl (fun ls345 hl346 => ?_)
                      clear hl344
                      refine lv_aload_n hx hb dX7_best_84 rfl (lv_at hl346 6 rfl) ?_
                      refine lv_iload hx hb dX7_best_85 (lv_at hl346 0 rfl) ?_
                      refine lv_if_ne (tgt := 94) hx hb dX7_best_87 (by decide) (fun b430 => ?_) (fun b430 => ?_)
                      · refine lv_iload hx hb dX7_best_94 (lv_at hl346 0 rfl) ?_
                        refine lv_iconst (v := 1) hx hb dX7_best_96 (by decide) ?_
                        refine lv_icmp_ne (tgt := 104) hx hb dX7_best_97 (by decide) (fun b431 => ?_) (fun b431 => ?_)
                        · refine lv_iconst (v := 1) hx hb dX7_best_104 (by decide) ?_
                          refine zz_cv (WC := [(mo, .inr (7, [.ref ms, .ref mi, .ref ma, .int 0, .ref mts, .ref mtz, .ref mtn, .ref mh, .ref mhn, .ref mhw, .ref mhz, .ref mhr, .ref mcl, .ref mtp, .int 0, .int 0, .int 0, .int 0, .int 0, .int 0, .int 0, .int 0, .int 0, .int 0, .int 0, .ref mna, .ref mpi, .ref mca, .ref mwa, .int 0, .ref mrd])), (ms, .inl (kms, 3047, .inl vf))]) (TC := [(kms, .int)]) (WR := [(mcl, .inl (kcl, 47, .inl c9335))]) (TR := [(kcl, .int)]) (k := 0) (n := 0) Z342 [0, 1] [2] [0] [1] rfl rfl (by decide +kernel) (by decide +kernel) (by decide +kernel) rfl rfl (fun Zc => va_runV (As := [.int 1]) (rest := []) X (c7_goesOnBy l D mo ms mi ma mts mtz mtn mh mhn mhw mhz mhr mcl mtp mna mpi mca mwa mrd 0 0 0 0 0 0 0 0 0 0 0 0 0 kms vf 0 v2 0 0 v5 v6 v7 3 10 0 1 hin.1 hin.2.1 hin.2.2.1 hin.2.2.2.1 hin.2.2.2.2.1 hin.2.2.2.2.2.1 hin.2.2.2.2.2.2.1 hin.2.2.2.2.2.2.2.1 hin.2.2.2.2.2.2.2.2.1 hin.2.2.2.2.2.2.2.2.2.1 hin.2.2.2.2.2.2.2.2.2.2 H339.size) (cwV 1 hts gX7_best_X7_goesOnBy rfl rfl rfl ⟨rfl, zh_X7_goesOnBy⟩ ⟨Nat.le_of_ble_eq_true rfl, Nat.le_of_ble_eq_true rfl⟩) (zz_pV (ci := 7) Zc 0 rfl rfl) rfl rfl hl346.1 rfl (lv_room (Nat.le_of_ble_eq_true rfl)) dX7_best_105 ⟨Nat.le_of_ble_eq_true rfl, Nat.le_of_ble_eq_true rfl⟩) rfl rfl (fun u432 H347 locs348 hw433 Z349 => ?_)
                          clear Z342
                          obtain ⟨f9435, F9436, T9437, Z9438⟩ := u432
                          try dsimp only at hw433 Z349
                          obtain ⟨⟨p439, p440, p441, p442, p443, p444, p445, p446, p447, p448, p449⟩, hx450⟩ := hw433
                          obtain ⟨rfl, rfl, rfl⟩ := hx450
                          have Z350 : zz_S D A s [(mcl, .inl (kcl, 47, .inl c9335)), (mo, .inr (7, [.ref ms, .ref mi, .ref ma, .int 0, .ref mts, .ref mtz, .ref mtn, .ref mh, .ref mhn, .ref mhw, .ref mhz, .ref mhr, .ref mcl, .ref mtp, .int 0, .int 0, .int 0, .int 0, .int 0, .int 0, .int 0, .int 0, .int 0, .int 0, .int 0, .ref mna, .ref mpi, .ref mca, .ref mwa, .int 0, .ref mrd])), (ms, .inl (kms, 3047, .inl f9435))] [(kcl, .int), (kms, .int)] H347 locs348 := Z349
                          clear Z349
                          refine lv_iload hx hb dX7_best_108 (lv_at hl346 1 rfl) ?_
                          refine lv_iconst (v := 3) hx hb dX7_best_110 (by decide) ?_
                          refine lv_idiv hx hb dX7_best_111 (by decide) ?_
                          refine zz_v (v := nI (zz_pw t)) (zz_pw3 t (by omega)) ?_
                          refine lv_istore (lv' := [(7, .int (nI (zz_pw t))), (8, .int y428), (6, .int (nI i)), (5, .int 0), (4, .int 0), (3, .int 9), (0, .ref mo), (1, .int 3), (2, .int what)]) hx hb dX7_best_112 hl346 (by decide) rfl (fun ls351 hl352 => ?_)
                          clear hl346
                          refine lv_goto (tgt := 70) hx hb dX7_best_114 (by decide) ?_
                          exact iht (by omega) f9435 (v2 + 1) (zz_bT v5 v6 10) (zz_bZ v6 10) (zz_mF v7 1 v6 3 10) ⟨p439, p440, p441, p442, p443, p444, p445, p446, p447, p448, p449⟩ _ _ _ Z350 (lv_sub hl352 [0, 2, 3, 4, 5, 6, 7, 8] rfl)
                        · refine lv_iconst (v := (-1)) hx hb dX7_best_100 (by decide) ?_
                          refine lv_goto (tgt := 105) hx hb dX7_best_101 (by decide) ?_
                          refine zz_cv (WC := [(mo, .inr (7, [.ref ms, .ref mi, .ref ma, .int 0, .ref mts, .ref mtz, .ref mtn, .ref mh, .ref mhn, .ref mhw, .ref mhz, .ref mhr, .ref mcl, .ref mtp, .int 0, .int 0, .int 0, .int 0, .int 0, .int 0, .int 0, .int 0, .int 0, .int 0, .int 0, .ref mna, .ref mpi, .ref mca, .ref mwa, .int 0, .ref mrd])), (ms, .inl (kms, 3047, .inl vf))]) (TC := [(kms, .int)]) (WR := [(mcl, .inl (kcl, 47, .inl c9335))]) (TR := [(kcl, .int)]) (k := 0) (n := 0) Z342 [0, 1] [2] [0] [1] rfl rfl (by decide +kernel) (by decide +kernel) (by decide +kernel) rfl rfl (fun Zc => va_runV (As := [.int (-1)]) (rest := []) X (c7_goesOnBy l D mo ms mi ma mts mtz mtn mh mhn mhw mhz mhr mcl mtp mna mpi mca mwa mrd 0 0 0 0 0 0 0 0 0 0 0 0 0 kms vf 0 v2 0 0 v5 v6 v7 3 10 0 (-1) hin.1 hin.2.1 hin.2.2.1 hin.2.2.2.1 hin.2.2.2.2.1 hin.2.2.2.2.2.1 hin.2.2.2.2.2.2.1 hin.2.2.2.2.2.2.2.1 hin.2.2.2.2.2.2.2.2.1 hin.2.2.2.2.2.2.2.2.2.1 hin.2.2.2.2.2.2.2.2.2.2 H339.size) (cwV 1 hts gX7_best_X7_goesOnBy rfl rfl rfl ⟨rfl, zh_X7_goesOnBy⟩ ⟨Nat.le_of_ble_eq_true rfl, Nat.le_of_ble_eq_true rfl⟩) (zz_pV (ci := 7) Zc 0 rfl rfl) rfl rfl hl346.1 rfl (lv_room (Nat.le_of_ble_eq_true rfl)) dX7_best_105 ⟨Nat.le_of_ble_eq_true rfl, Nat.le_of_ble_eq_true rfl⟩) rfl rfl (fun u451 H353 locs354 hw452 Z355 => ?_)
                          clear Z342
                          obtain ⟨f9454, F9455, T9456, Z9457⟩ := u451
                          try dsimp only at hw452 Z355
                          obtain ⟨⟨p458, p459, p460, p461, p462, p463, p464, p465, p466, p467, p468⟩, hx469⟩ := hw452
                          obtain ⟨rfl, rfl, rfl⟩ := hx469
                          have Z356 : zz_S D A s [(mcl, .inl (kcl, 47, .inl c9335)), (mo, .inr (7, [.ref ms, .ref mi, .ref ma, .int 0, .ref mts, .ref mtz, .ref mtn, .ref mh, .ref mhn, .ref mhw, .ref mhz, .ref mhr, .ref mcl, .ref mtp, .int 0, .int 0, .int 0, .int 0, .int 0, .int 0, .int 0, .int 0, .int 0, .int 0, .int 0, .ref mna, .ref mpi, .ref mca, .ref mwa, .int 0, .ref mrd])), (ms, .inl (kms, 3047, .inl f9454))] [(kcl, .int), (kms, .int)] H353 locs354 := Z355
                          clear Z355
                          refine lv_iload hx hb dX7_best_108 (lv_at hl346 1 rfl) ?_
                          refine lv_iconst (v := 3) hx hb dX7_best_110 (by decide) ?_
                          refine lv_idiv hx hb dX7_best_111 (by decide) ?_
                          refine zz_v (v := nI (zz_pw t)) (zz_pw3 t (by omega)) ?_
                          refine lv_istore (lv' := [(7, .int (nI (zz_pw t))), (8, .int y428), (6, .int (nI i)), (5, .int 0), (4, .int 0), (3, .int 9), (0, .ref mo), (1, .int 3), (2, .int what)]) hx hb dX7_best_112 hl346 (by decide) rfl (fun ls357 hl358 => ?_)
                          clear hl346
                          refine lv_goto (tgt := 70) hx hb dX7_best_114 (by decide) ?_
                          exact iht (by omega) f9454 (v2 + 1) (zz_bT v5 v6 10) (zz_bZ v6 10) (zz_mF v7 (-1) v6 3 10) ⟨p458, p459, p460, p461, p462, p463, p464, p465, p466, p467, p468⟩ _ _ _ Z356 (lv_sub hl358 [0, 2, 3, 4, 5, 6, 7, 8] rfl)
                      · refine lv_iconst (v := 0) hx hb dX7_best_90 (by decide) ?_
                        refine lv_goto (tgt := 105) hx hb dX7_best_91 (by decide) ?_
                        refine zz_cv (WC := [(mo, .inr (7, [.ref ms, .ref mi, .ref ma, .int 0, .ref mts, .ref mtz, .ref mtn, .ref mh, .ref mhn, .ref mhw, .ref mhz, .ref mhr, .ref mcl, .ref mtp, .int 0, .int 0, .int 0, .int 0, .int 0, .int 0, .int 0, .int 0, .int 0, .int 0, .int 0, .ref mna, .ref mpi, .ref mca, .ref mwa, .int 0, .ref mrd])), (ms, .inl (kms, 3047, .inl vf))]) (TC := [(kms, .int)]) (WR := [(mcl, .inl (kcl, 47, .inl c9335))]) (TR := [(kcl, .int)]) (k := 0) (n := 0) Z342 [0, 1] [2] [0] [1] rfl rfl (by decide +kernel) (by decide +kernel) (by decide +kernel) rfl rfl (fun Zc => va_runV (As := [.int 0]) (rest := []) X (c7_goesOnBy l D mo ms mi ma mts mtz mtn mh mhn mhw mhz mhr mcl mtp mna mpi mca mwa mrd 0 0 0 0 0 0 0 0 0 0 0 0 0 kms vf 0 v2 0 0 v5 v6 v7 3 10 0 0 hin.1 hin.2.1 hin.2.2.1 hin.2.2.2.1 hin.2.2.2.2.1 hin.2.2.2.2.2.1 hin.2.2.2.2.2.2.1 hin.2.2.2.2.2.2.2.1 hin.2.2.2.2.2.2.2.2.1 hin.2.2.2.2.2.2.2.2.2.1 hin.2.2.2.2.2.2.2.2.2.2 H339.size) (cwV 1 hts gX7_best_X7_goesOnBy rfl rfl rfl ⟨rfl, zh_X7_goesOnBy⟩ ⟨Nat.le_of_ble_eq_true rfl, Nat.le_of_ble_eq_true rfl⟩) (zz_pV (ci := 7) Zc 0 rfl rfl) rfl rfl hl346.1 rfl (lv_room (Nat.le_of_ble_eq_true rfl)) dX7_best_105 ⟨Nat.le_of_ble_eq_true rfl, Nat.le_of_ble_eq_true rfl⟩) rfl rfl (fun u470 H359 locs360 hw471 Z361 => ?_)
                        clear Z342
                        obtain ⟨f9473, F9474, T9475, Z9476⟩ := u470
                        try dsimp only at hw471 Z361
                        obtain ⟨⟨p477, p478, p479, p480, p481, p482, p483, p484, p485, p486, p487⟩, hx488⟩ := hw471
                        obtain ⟨rfl, rfl, rfl⟩ := hx488
                        have Z362 : zz_S D A s [(mcl, .inl (kcl, 47, .inl c9335)), (mo, .inr (7, [.ref ms, .ref mi, .ref ma, .int 0, .ref mts, .ref mtz, .ref mtn, .ref mh, .ref mhn, .ref mhw, .ref mhz, .ref mhr, .ref mcl, .ref mtp, .int 0, .int 0, .int 0, .int 0, .int 0, .int 0, .int 0, .int 0, .int 0, .int 0, .int 0, .ref mna, .ref mpi, .ref mca, .ref mwa, .int 0, .ref mrd])), (ms, .inl (kms, 3047, .inl f9473))] [(kcl, .int), (kms, .int)] H359 locs360 := Z361
                        clear Z361
                        refine lv_iload hx hb dX7_best_108 (lv_at hl346 1 rfl) ?_
                        refine lv_iconst (v := 3) hx hb dX7_best_110 (by decide) ?_
                        refine lv_idiv hx hb dX7_best_111 (by decide) ?_
                        refine zz_v (v := nI (zz_pw t)) (zz_pw3 t (by omega)) ?_
                        refine lv_istore (lv' := [(7, .int (nI (zz_pw t))), (8, .int y428), (6, .int (nI i)), (5, .int 0), (4, .int 0), (3, .int 9), (0, .ref mo), (1, .int 3), (2, .int what)]) hx hb dX7_best_112 hl346 (by decide) rfl (fun ls363 hl364 => ?_)
                        clear hl346
                        refine lv_goto (tgt := 70) hx hb dX7_best_114 (by decide) ?_
                        exact iht (by omega) f9473 (v2 + 1) (zz_bT v5 v6 10) (zz_bZ v6 10) (zz_mF v7 0 v6 3 10) ⟨p477, p478, p479, p480, p481, p482, p483, p484, p485, p486, p487⟩ _ _ _ Z362 (lv_sub hl364 [0, 2, 3, 4, 5, 6, 7, 8] rfl)
                exact inner 3 (by decide) vf 0 0 1 0 ⟨hinv.1, hinv.2.1, hinv.2.2.1, hinv.2.2.2.1, hinv.2.2.2.2.1, hinv.2.2.2.2.2.1, hinv.2.2.2.2.2.2.1, hinv.2.2.2.2.2.2.2.1, hinv.2.2.2.2.2.2.2.2.1, hinv.2.2.2.2.2.2.2.2.2.1, hinv.2.2.2.2.2.2.2.2.2.2.1⟩ _ _ _ Z275 hl324
        exact loop 27 0 f (-1) (by omega) ⟨af_0, af_1, af_2, af_3, af_4, af_5, af_6, af_7, af_8, af_9, af_10, (Or.inl ⟨rfl, rfl⟩)⟩ _ _ _ Z260 hl266
      · refine zz_v (v := 0) (zz_wiF w331) ?_
        refine lv_if_ne (tgt := 25) hx hb dX7_best_19 (by decide) (fun h => absurd (by decide) h) (fun _ => ?_)
        refine lv_ldc (v := (-1000000001)) hx hb hown (hts _ (zz_m 2 rfl)) dX7_best_22 ?_
        exact zz_iret X hr hlk Z244 () (by simp [sp_best, w331]) [] [] (by decide +kernel) rfl rfl dX7_best_24
    · have e5 : n = 4 := e5
      subst e5
      refine zz_v (v := 1) (by decide) ?_
      refine lv_if_eq (tgt := 22) hx hb dX7_best_9 (by decide) (fun h => absurd h (by decide)) (fun _ => ?_)
      refine lv_iload_n hx hb dX7_best_12 rfl (lv_at hl 2 rfl) ?_
      refine lv_i2l (v := Int32.toInt64 what) hx hb dX7_best_13 rfl ?_
      refine lv_lconst (v := 0) hx hb dX7_best_14 (by decide) ?_
      refine zz_vl (v := Int32.toInt64 0) (by decide) ?_
      refine lv_lconst (v := 1) hx hb dX7_best_15 (by decide) ?_
      refine zz_vl (v := Int32.toInt64 1) (by decide) ?_
      refine zz_ci (WC := []) (TC := []) (WR := [(mo, .inr (7, [.ref ms, .ref mi, .ref ma, .int 0, .ref mts, .ref mtz, .ref mtn, .ref mh, .ref mhn, .ref mhw, .ref mhz, .ref mhr, .ref mcl, .ref mtp, .int 0, .int 0, .int 0, .int 0, .int 0, .int 0, .int 0, .int 0, .int 0, .int 0, .int 0, .ref mna, .ref mpi, .ref mca, .ref mwa, .int 0, .ref mrd])), (ms, .inl (kms, 3047, .inl f)), (mcl, .inl (kcl, 47, .inl cf))]) (TR := [(kms, .int), (kcl, .int)]) (k := 0) (n := 0) Z4 [] [0, 1, 2] [] [0, 1] rfl rfl (by decide +kernel) (by decide +kernel) (by decide +kernel) rfl rfl (fun Zc => va_runS (As := [.long (Int32.toInt64 what), .long (Int32.toInt64 0), .long (Int32.toInt64 1)]) (rest := []) X (c_isIn l D what 0 1 H1.size) (va_cwS 3 hts gX7_best_X7_isIn rfl rfl rfl zh_X7_isIn ⟨Nat.le_of_ble_eq_true rfl, Nat.le_of_ble_eq_true rfl⟩) (zz_pS Zc) rfl rfl hl.1 rfl (lv_room (Nat.le_of_ble_eq_true rfl)) dX7_best_16 ⟨Nat.le_of_ble_eq_true rfl, Nat.le_of_ble_eq_true rfl⟩) rfl rfl (fun r491 u489 H365 locs366 hw490 Z367 => ?_)
      clear Z4
      subst r491
      have Z368 : zz_S D A s [(mo, .inr (7, [.ref ms, .ref mi, .ref ma, .int 0, .ref mts, .ref mtz, .ref mtn, .ref mh, .ref mhn, .ref mhw, .ref mhz, .ref mhr, .ref mcl, .ref mtp, .int 0, .int 0, .int 0, .int 0, .int 0, .int 0, .int 0, .int 0, .int 0, .int 0, .int 0, .ref mna, .ref mpi, .ref mca, .ref mwa, .int 0, .ref mrd])), (ms, .inl (kms, 3047, .inl f)), (mcl, .inl (kcl, 47, .inl cf))] [(kms, .int), (kcl, .int)] H365 locs366 := Z367
      clear Z367
      by_cases w492 : 0 ≤ what ∧ what ≤ 1
      · refine zz_v (v := 1) (zz_wiT w492) ?_
        refine lv_if_ne (tgt := 25) hx hb dX7_best_19 (by decide) (fun _ => ?_) (fun h => absurd h (by decide))
        refine lv_iconst (v := 1) hx hb dX7_best_25 (by decide) ?_
        refine lv_istore_n (lv' := [(3, .int 1), (0, .ref mo), (1, .int 4), (2, .int what)]) hx hb dX7_best_26 rfl hl (by decide) rfl (fun ls369 hl370 => ?_)
        clear hl
        refine lv_iconst (v := 1) hx hb dX7_best_27 (by decide) ?_
        refine lv_istore (lv' := [(4, .int 1), (3, .int 1), (0, .ref mo), (1, .int 4), (2, .int what)]) hx hb dX7_best_28 hl370 (by decide) rfl (fun ls371 hl372 => ?_)
        clear hl370
        refine lv_iload hx hb dX7_best_30 (lv_at hl372 0 rfl) ?_
        refine lv_iload_n hx hb dX7_best_32 rfl (lv_at hl372 3 rfl) ?_
        refine lv_icmp_ge (tgt := 46) hx hb dX7_best_33 (by decide) (fun h => absurd h (by decide)) (fun _ => ?_)
        refine lv_iload_n hx hb dX7_best_36 rfl (lv_at hl372 1 rfl) ?_
        refine lv_iconst (v := 3) hx hb dX7_best_37 (by decide) ?_
        refine lv_imul hx hb dX7_best_38 ?_
        refine zz_v (v := 3) (by decide) ?_
        refine lv_istore_n (lv' := [(3, .int 3), (4, .int 1), (0, .ref mo), (1, .int 4), (2, .int what)]) hx hb dX7_best_39 rfl hl372 (by decide) rfl (fun ls373 hl374 => ?_)
        clear hl372
        refine lv_iinc (v := 2) (lv' := [(4, .int 2), (3, .int 3), (0, .ref mo), (1, .int 4), (2, .int what)]) hx hb dX7_best_40 hl374 (k := 1) rfl (by decide) (by decide) rfl (fun ls375 hl376 => ?_)
        clear hl374
        refine lv_goto (tgt := 30) hx hb dX7_best_43 (by decide) ?_
        refine lv_iload hx hb dX7_best_30 (lv_at hl376 0 rfl) ?_
        refine lv_iload_n hx hb dX7_best_32 rfl (lv_at hl376 3 rfl) ?_
        refine lv_icmp_ge (tgt := 46) hx hb dX7_best_33 (by decide) (fun h => absurd h (by decide)) (fun _ => ?_)
        refine lv_iload_n hx hb dX7_best_36 rfl (lv_at hl376 1 rfl) ?_
        refine lv_iconst (v := 3) hx hb dX7_best_37 (by decide) ?_
        refine lv_imul hx hb dX7_best_38 ?_
        refine zz_v (v := 9) (by decide) ?_
        refine lv_istore_n (lv' := [(3, .int 9), (4, .int 2), (0, .ref mo), (1, .int 4), (2, .int what)]) hx hb dX7_best_39 rfl hl376 (by decide) rfl (fun ls377 hl378 => ?_)
        clear hl376
        refine lv_iinc (v := 3) (lv' := [(4, .int 3), (3, .int 9), (0, .ref mo), (1, .int 4), (2, .int what)]) hx hb dX7_best_40 hl378 (k := 1) rfl (by decide) (by decide) rfl (fun ls379 hl380 => ?_)
        clear hl378
        refine lv_goto (tgt := 30) hx hb dX7_best_43 (by decide) ?_
        refine lv_iload hx hb dX7_best_30 (lv_at hl380 0 rfl) ?_
        refine lv_iload_n hx hb dX7_best_32 rfl (lv_at hl380 3 rfl) ?_
        refine lv_icmp_ge (tgt := 46) hx hb dX7_best_33 (by decide) (fun h => absurd h (by decide)) (fun _ => ?_)
        refine lv_iload_n hx hb dX7_best_36 rfl (lv_at hl380 1 rfl) ?_
        refine lv_iconst (v := 3) hx hb dX7_best_37 (by decide) ?_
        refine lv_imul hx hb dX7_best_38 ?_
        refine zz_v (v := 27) (by decide) ?_
        refine lv_istore_n (lv' := [(3, .int 27), (4, .int 3), (0, .ref mo), (1, .int 4), (2, .int what)]) hx hb dX7_best_39 rfl hl380 (by decide) rfl (fun ls381 hl382 => ?_)
        clear hl380
        refine lv_iinc (v := 4) (lv' := [(4, .int 4), (3, .int 27), (0, .ref mo), (1, .int 4), (2, .int what)]) hx hb dX7_best_40 hl382 (k := 1) rfl (by decide) (by decide) rfl (fun ls383 hl384 => ?_)
        clear hl382
        refine lv_goto (tgt := 30) hx hb dX7_best_43 (by decide) ?_
        refine lv_iload hx hb dX7_best_30 (lv_at hl384 0 rfl) ?_
        refine lv_iload_n hx hb dX7_best_32 rfl (lv_at hl384 3 rfl) ?_
        refine lv_icmp_ge (tgt := 46) hx hb dX7_best_33 (by decide) (fun _ => ?_) (fun h => absurd (by decide) h)
        refine lv_aload_n hx hb dX7_best_46 rfl (lv_at hl384 2 rfl) ?_
        refine zz_cv (WC := [(mo, .inr (7, [.ref ms, .ref mi, .ref ma, .int 0, .ref mts, .ref mtz, .ref mtn, .ref mh, .ref mhn, .ref mhw, .ref mhz, .ref mhr, .ref mcl, .ref mtp, .int 0, .int 0, .int 0, .int 0, .int 0, .int 0, .int 0, .int 0, .int 0, .int 0, .int 0, .ref mna, .ref mpi, .ref mca, .ref mwa, .int 0, .ref mrd])), (ms, .inl (kms, 3047, .inl f)), (mcl, .inl (kcl, 47, .inl cf))]) (TC := [(kms, .int), (kcl, .int)]) (WR := []) (TR := []) (k := 0) (n := 0) Z368 [0, 1, 2] [] [0, 1] [] rfl rfl (by decide +kernel) (by decide +kernel) (by decide +kernel) rfl rfl (fun Zc => va_runV (As := []) (rest := []) X (c7_laysBy l D mo ms mi ma mts mtz mtn mh mhn mhw mhz mhr mcl mtp mna mpi mca mwa mrd 0 0 0 0 0 0 0 0 0 0 0 0 0 kms f kcl cf H365.size) (cwV 0 hts gX7_best_X7_laysBy rfl rfl rfl ⟨rfl, zh_X7_laysBy⟩ ⟨Nat.le_of_ble_eq_true rfl, Nat.le_of_ble_eq_true rfl⟩) (zz_pV (ci := 7) Zc 0 rfl rfl) rfl rfl hl384.1 rfl (lv_room (Nat.le_of_ble_eq_true rfl)) dX7_best_47 ⟨Nat.le_of_ble_eq_true rfl, Nat.le_of_ble_eq_true rfl⟩) rfl rfl (fun u493 H385 locs386 hw494 Z387 => ?_)
        clear Z368
        obtain ⟨c9496, rfl⟩ : ∃ z, z = u493 := ⟨_, rfl⟩
        try dsimp only at hw494 Z387
        have Z388 : zz_S D A s [(mo, .inr (7, [.ref ms, .ref mi, .ref ma, .int 0, .ref mts, .ref mtz, .ref mtn, .ref mh, .ref mhn, .ref mhw, .ref mhz, .ref mhr, .ref mcl, .ref mtp, .int 0, .int 0, .int 0, .int 0, .int 0, .int 0, .int 0, .int 0, .int 0, .int 0, .int 0, .ref mna, .ref mpi, .ref mca, .ref mwa, .int 0, .ref mrd])), (ms, .inl (kms, 3047, .inl f)), (mcl, .inl (kcl, 47, .inl c9496))] [(kms, .int), (kcl, .int)] H385 locs386 := Z387
        clear Z387
        refine lv_iconst (v := (-1)) hx hb dX7_best_50 (by decide) ?_
        refine lv_istore (lv' := [(4, .int (-1)), (3, .int 27), (0, .ref mo), (1, .int 4), (2, .int what)]) hx hb dX7_best_51 hl384 (by decide) rfl (fun ls389 hl390 => ?_)
        clear hl384
        refine lv_iconst (v := 0) hx hb dX7_best_53 (by decide) ?_
        refine lv_istore (lv' := [(5, .int 0), (4, .int (-1)), (3, .int 27), (0, .ref mo), (1, .int 4), (2, .int what)]) hx hb dX7_best_54 hl390 (by decide) rfl (fun ls391 hl392 => ?_)
        clear hl390
        refine lv_iconst (v := 0) hx hb dX7_best_56 (by decide) ?_
        refine lv_istore (lv' := [(6, .int 0), (5, .int 0), (4, .int (-1)), (3, .int 27), (0, .ref mo), (1, .int 4), (2, .int what)]) hx hb dX7_best_57 hl392 (by decide) rfl (fun ls393 hl394 => ?_)
        clear hl392
        have loop : ∀ (k i : Nat) (vf : Nat → Int32) (vb : Int32), i + k = 81 → (vf 0 = 0 ∧ vf 1 = 0 ∧ vf 2 = 0 ∧ vf 3 = 0 ∧ vf 4 = 0 ∧ vf 5 = 0 ∧ vf 6 = 1 ∧ vf 7 = 0 ∧ vf 8 = 3 ∧ vf 9 = 10 ∧ vf 10 = 0 ∧ ((i = 0 ∧ vb = -1) ∨ (0 < i ∧ vb = 0))) → ∀ (Hq : Heap) (Lq : List Loc) (lq : Array Slot), zz_S D A s [(mo, .inr (7, [.ref ms, .ref mi, .ref ma, .int 0, .ref mts, .ref mtz, .ref mtn, .ref mh, .ref mhn, .ref mhw, .ref mhz, .ref mhr, .ref mcl, .ref mtp, .int 0, .int 0, .int 0, .int 0, .int 0, .int 0, .int 0, .int 0, .int 0, .int 0, .int 0, .ref mna, .ref mpi, .ref mca, .ref mwa, .int 0, .ref mrd])), (ms, .inl (kms, 3047, .inl vf)), (mcl, .inl (kcl, 47, .inl c9496))] [(kms, .int), (kcl, .int)] Hq Lq → lv_has lq 9 [(6, .int (nI i)), (5, .int 0), (4, .int vb), (3, .int 27), (0, .ref mo), (1, .int 4), (2, .int what)] → W p l e (headSpec wsX7_best { frames := 3, cells := 0, slots := 0, locals := 64 }).room s m (List.toArray [.ref mo, .int 4, .int what]) below meth c Hq Lq 0 0 (MQ below (va_Qi (fun (r : Int32) (u : Unit) => r = sp_best 4 what) (fun u t => zz_B D A ((fun (u : Unit) => []) u) ((fun (u : Unit) => []) u) t) A) (List.toArray [.ref mo, .int 4, .int what]) s 0 0 A) (F0 m 59 lq []) := by
          intro k
          induction k with
          | zero =>
              intro i vf vb hik hinv H395 locs396 ls397 Z398 hl399
              rcases hinv.2.2.2.2.2.2.2.2.2.2.2 with ⟨h0, hv⟩ | ⟨h0, hv⟩
              · omega
              subst hv
              refine lv_iload hx hb dX7_best_59 (lv_at hl399 0 rfl) ?_
              refine lv_iconst (v := 3) hx hb dX7_best_61 (by decide) ?_
              refine lv_iload_n hx hb dX7_best_62 rfl (lv_at hl399 3 rfl) ?_
              refine lv_imul hx hb dX7_best_63 ?_
              refine zz_v (v := 81) (by decide) ?_
              refine lv_icmp_ge (tgt := 155) hx hb dX7_best_64 (by decide) (fun _ => ?_) (fun h => absurd (nI_le (a := 81) (b := i) (by omega) (by omega)) h)
              refine lv_iload_n hx hb dX7_best_155 rfl (lv_at hl399 6 rfl) ?_
              refine lv_if_ne (tgt := 164) hx hb dX7_best_156 (by decide) (fun b497 => ?_) (fun b497 => ?_)
              · refine lv_iload hx hb dX7_best_164 (lv_at hl399 1 rfl) ?_
                exact zz_iret X hr hlk Z398 () (by simp [sp_best, w492]) [] [] (by decide +kernel) rfl rfl dX7_best_166
              · refine lv_iload hx hb dX7_best_159 (lv_at hl399 2 rfl) ?_
                refine lv_goto (tgt := 166) hx hb dX7_best_161 (by decide) ?_
                exact zz_iret X hr hlk Z398 () (by simp [sp_best, w492]) [] [] (by decide +kernel) rfl rfl dX7_best_166
          | succ k ih =>
              intro i vf vb hik hinv H400 locs401 ls402 Z403 hl404
              rcases hinv.2.2.2.2.2.2.2.2.2.2.2 with ⟨h0, hv⟩ | ⟨h0, hv⟩
              · subst hv
                refine lv_iload hx hb dX7_best_59 (lv_at hl404 0 rfl) ?_
                refine lv_iconst (v := 3) hx hb dX7_best_61 (by decide) ?_
                refine lv_iload_n hx hb dX7_best_62 rfl (lv_at hl404 3 rfl) ?_
                refine lv_imul hx hb dX7_best_63 ?_
                refine zz_v (v := 81) (by decide) ?_
                refine lv_icmp_ge (tgt := 155) hx hb dX7_best_64 (by decide) (fun h => absurd h (nI_ge (a := i) (b := 81) (by omega) (by omega))) (fun _ => ?_)
                refine lv_iload_n hx hb dX7_best_67 rfl (lv_at hl404 3 rfl) ?_
                refine lv_istore (lv' := [(7, .int 27), (6, .int (nI i)), (5, .int 0), (4, .int (-1)), (3, .int 27), (0, .ref mo), (1, .int 4), (2, .int what)]) hx hb dX7_best_68 hl404 (by decide) rfl (fun ls405 hl406 => ?_)
                clear hl404
                have inner : ∀ (t : Nat), t ≤ 5 → ∀ (vf : Nat → Int32) (v2 v5 v6 v7 : Int32), vf 0 = 0 ∧ vf 1 = 0 ∧ vf 2 = v2 ∧ vf 3 = 0 ∧ vf 4 = 0 ∧ vf 5 = v5 ∧ vf 6 = v6 ∧ vf 7 = v7 ∧ vf 8 = 3 ∧ vf 9 = 10 ∧ vf 10 = 0 → ∀ (Hq : Heap) (Lq : List Loc) (lq : Array Slot), zz_S D A s [(mo, .inr (7, [.ref ms, .ref mi, .ref ma, .int 0, .ref mts, .ref mtz, .ref mtn, .ref mh, .ref mhn, .ref mhw, .ref mhz, .ref mhr, .ref mcl, .ref mtp, .int 0, .int 0, .int 0, .int 0, .int 0, .int 0, .int 0, .int 0, .int 0, .int 0, .int 0, .ref mna, .ref mpi, .ref mca, .ref mwa, .int 0, .ref mrd])), (ms, .inl (kms, 3047, .inl vf)), (mcl, .inl (kcl, 47, .inl c9496))] [(kms, .int), (kcl, .int)] Hq Lq → lv_has lq 9 [(7, .int (nI (zz_pw t))), (6, .int (nI i)), (5, .int 0), (4, .int (-1)), (3, .int 27), (0, .ref mo), (1, .int 4), (2, .int what)] → W p l e (headSpec wsX7_best { frames := 3, cells := 0, slots := 0, locals := 64 }).room s m (List.toArray [.ref mo, .int 4, .int what]) below meth c Hq Lq 0 0 (MQ below (va_Qi (fun (r : Int32) (u : Unit) => r = sp_best 4 what) (fun u t => zz_B D A ((fun (u : Unit) => []) u) ((fun (u : Unit) => []) u) t) A) (List.toArray [.ref mo, .int 4, .int what]) s 0 0 A) (F0 m 70 lq []) := by
                  intro t
                  induction t with
                  | zero =>
                      intro ht vf v2 v5 v6 v7 hin H407 locs408 ls409 Z410 hl411
                      have hl412 : lv_has ls409 9 [(7, .int 0), (6, .int (nI i)), (5, .int 0), (4, .int (-1)), (3, .int 27), (0, .ref mo), (1, .int 4), (2, .int what)] := hl411
                      clear hl411
                      refine lv_iload hx hb dX7_best_70 (lv_at hl412 0 rfl) ?_
                      refine lv_if_le (tgt := 117) hx hb dX7_best_72 (by decide) (fun _ => ?_) (fun h => absurd (by decide) h)
                      refine lv_aload_n hx hb dX7_best_117 rfl (lv_at hl412 5 rfl) ?_
                      refine zz_get X Z410 0 rfl rfl (fun w h => List.mem_cons_of_mem _ (List.mem_append_right _ h)) 0 rfl (zz_m 3 rfl) rfl dX7_best_118 ?_
                      refine lv_iconst (v := 4) hx hb dX7_best_121 (by decide) ?_
                      refine zz_ild X Z410 1 0 rfl rfl (zz_in 4 3047 rfl) dX7_best_122 ?_
                      refine zz_v (v := 0) hin.2.2.2.2.1 ?_
                      refine lv_istore (lv' := [(7, .int 0), (6, .int (nI i)), (5, .int 0), (4, .int (-1)), (3, .int 27), (0, .ref mo), (1, .int 4), (2, .int what)]) hx hb dX7_best_123 hl412 (by decide) rfl (fun ls413 hl414 => ?_)
                      clear hl412
                      refine lv_aload_n hx hb dX7_best_125 rfl (lv_at hl414 5 rfl) ?_
                      refine zz_cv (WC := [(mo, .inr (7, [.ref ms, .ref mi, .ref ma, .int 0, .ref mts, .ref mtz, .ref mtn, .ref mh, .ref mhn, .ref mhw, .ref mhz, .ref mhr, .ref mcl, .ref mtp, .int 0, .int 0, .int 0, .int 0, .int 0, .int 0, .int 0, .int 0, .int 0, .int 0, .int 0, .ref mna, .ref mpi, .ref mca, .ref mwa, .int 0, .ref mrd])), (ms, .inl (kms, 3047, .inl vf)), (mcl, .inl (kcl, 47, .inl c9496))]) (TC := [(kms, .int), (kcl, .int)]) (WR := []) (TR := []) (k := 0) (n := 0) Z410 [0, 1, 2] [] [0, 1] [] rfl rfl (by decide +kernel) (by decide +kernel) (by decide +kernel) rfl rfl (fun Zc => va_runV (As := []) (rest := []) X (c7_laysBack l D mo ms mi ma mts mtz mtn mh mhn mhw mhz mhr mcl mtp mna mpi mca mwa mrd 0 0 0 0 0 0 0 0 0 0 0 0 0 kms vf kcl c9496 H407.size) (cwV 0 hts gX7_best_X7_laysBack rfl rfl rfl ⟨rfl, zh_X7_laysBack⟩ ⟨Nat.le_of_ble_eq_true rfl, Nat.le_of_ble_eq_true rfl⟩) (zz_pV (ci := 7) Zc 0 rfl rfl) rfl rfl hl414.1 rfl (lv_room (Nat.le_of_ble_eq_true rfl)) dX7_best_126 ⟨Nat.le_of_ble_eq_true rfl, Nat.le_of_ble_eq_true rfl⟩) rfl rfl (fun u498 H415 locs416 hw499 Z417 => ?_)
                      clear Z410
                      obtain ⟨f9501, rfl⟩ : ∃ z, z = u498 := ⟨_, rfl⟩
                      try dsimp only at hw499 Z417
                      have Z418 : zz_S D A s [(mo, .inr (7, [.ref ms, .ref mi, .ref ma, .int 0, .ref mts, .ref mtz, .ref mtn, .ref mh, .ref mhn, .ref mhw, .ref mhz, .ref mhr, .ref mcl, .ref mtp, .int 0, .int 0, .int 0, .int 0, .int 0, .int 0, .int 0, .int 0, .int 0, .int 0, .int 0, .ref mna, .ref mpi, .ref mca, .ref mwa, .int 0, .ref mrd])), (ms, .inl (kms, 3047, .inl f9501)), (mcl, .inl (kcl, 47, .inl c9496))] [(kms, .int), (kcl, .int)] H415 locs416 := Z417
                      clear Z417
                      have p502 : f9501 0 = 0 := (hw499 0 (by decide)).trans ((hw494 0 (by decide)).trans af_0)
                      have p503 : f9501 1 = 0 := (hw499 1 (by decide)).trans ((hw494 1 (by decide)).trans af_1)
                      have p504 : f9501 2 = 0 := (hw499 2 (by decide)).trans ((hw494 2 (by decide)).trans af_2)
                      have p505 : f9501 3 = 0 := (hw499 3 (by decide)).trans ((hw494 3 (by decide)).trans af_3)
                      have p506 : f9501 4 = 0 := (hw499 4 (by decide)).trans ((hw494 4 (by decide)).trans af_4)
                      have p507 : f9501 5 = 0 := (hw499 5 (by decide)).trans ((hw494 5 (by decide)).trans af_5)
                      have p508 : f9501 6 = 1 := (hw499 6 (by decide)).trans ((hw494 6 (by decide)).trans af_6)
                      have p509 : f9501 7 = 0 := (hw499 7 (by decide)).trans ((hw494 7 (by decide)).trans af_7)
                      have p510 : f9501 8 = 3 := (hw499 8 (by decide)).trans ((hw494 8 (by decide)).trans af_8)
                      have p511 : f9501 9 = 10 := (hw499 9 (by decide)).trans ((hw494 9 (by decide)).trans af_9)
                      have p512 : f9501 10 = 0 := (hw499 10 (by decide)).trans ((hw494 10 (by decide)).trans af_10)
                      refine lv_iload hx hb dX7_best_129 (lv_at hl414 3 rfl) ?_
                      refine lv_if_lt (tgt := 141) hx hb dX7_best_131 (by decide) (fun _ => ?_) (fun h => absurd (by decide) h)
                      refine lv_iload hx hb dX7_best_141 (lv_at hl414 1 rfl) ?_
                      refine lv_istore (lv' := [(4, .int (nI i)), (7, .int 0), (6, .int (nI i)), (5, .int 0), (3, .int 27), (0, .ref mo), (1, .int 4), (2, .int what)]) hx hb dX7_best_143 hl414 (by decide) rfl (fun ls419 hl420 => ?_)
                      clear hl414
                      refine lv_iload hx hb dX7_best_145 (lv_at hl420 1 rfl) ?_
                      refine lv_istore (lv' := [(5, .int 0), (4, .int (nI i)), (7, .int 0), (6, .int (nI i)), (3, .int 27), (0, .ref mo), (1, .int 4), (2, .int what)]) hx hb dX7_best_147 hl420 (by decide) rfl (fun ls421 hl422 => ?_)
                      clear hl420
                      refine lv_iinc (v := nI (i + 1)) (lv' := [(6, .int (nI (i + 1))), (5, .int 0), (4, .int (nI i)), (7, .int 0), (3, .int 27), (0, .ref mo), (1, .int 4), (2, .int what)]) hx hb dX7_best_149 hl422 (k := 3) rfl (nI_1 i) (by decide) rfl (fun ls423 hl424 => ?_)
                      clear hl422
                      refine lv_goto (tgt := 59) hx hb dX7_best_152 (by decide) ?_
                      exact ih (i + 1) f9501 (nI i) (by omega) ⟨p502, p503, p504, p505, p506, p507, p508, p509, p510, p511, p512, (Or.inr ⟨by omega, by rw [h0]; rfl⟩)⟩ _ _ _ Z418 (lv_sub hl424 [0, 1, 2, 4, 5, 6, 7] rfl)
                  | succ t iht =>
                      intro ht vf v2 v5 v6 v7 hin H425 locs426 ls427 Z428 hl429
                      have hl430 : lv_has ls427 9 [(7, .int (nI (zz_pw (t + 1)))), (6, .int (nI i)), (5, .int 0), (4, .int (-1)), (3, .int 27), (0, .ref mo), (1, .int 4), (2, .int what)] := hl429
                      clear hl429
                      refine lv_iload hx hb dX7_best_70 (lv_at hl430 0 rfl) ?_
                      refine lv_if_le (tgt := 117) hx hb dX7_best_72 (by decide) (fun h => absurd h (nI_nle (zz_pwP t (by omega)).1 (zz_pwP t (by omega)).2)) (fun _ => ?_)
                      refine lv_iload hx hb dX7_best_75 (lv_at hl430 1 rfl) ?_
                      refine lv_iload hx hb dX7_best_77 (lv_at hl430 0 rfl) ?_
                      refine lv_idiv hx hb dX7_best_79 (nI_ne0 (zz_pwP t (by omega)).1 (zz_pwP t (by omega)).2) ?_
                      refine lv_iconst (v := 3) hx hb dX7_best_80 (by decide) ?_
                      refine lv_irem hx hb dX7_best_81 (by decide) ?_
                      refine lv_topi (fun y513 ey514 => ?_)
                      refine lv_istore (lv' := [(8, .int y513), (7, .int (nI (zz_pw (t + 1)))), (6, .int (nI i)), (5, .int 0), (4, .int (-1)), (3, .int 27), (0, .ref mo), (1, .int 4), (2, .int what)]) hx hb dX7_best_82 hl430 (by decide) rfl (fun ls431 hl432 => ?_)
                      clear hl430
                      refine lv_aload_n hx hb dX7_best_84 rfl (lv_at hl432 6 rfl) ?_
                      refine lv_iload hx hb dX7_best_85 (lv_at hl432 0 rfl) ?_
                      refine lv_if_ne (tgt := 94) hx hb dX7_best_87 (by decide) (fun b515 => ?_) (fun b515 => ?_)
                      · refine lv_iload hx hb dX7_best_94 (lv_at hl432 0 rfl) ?_
                        refine lv_iconst (v := 1) hx hb dX7_best_96 (by decide) ?_
                        refine lv_icmp_ne (tgt := 104) hx hb dX7_best_97 (by decide) (fun b516 => ?_) (fun b516 => ?_)
                        · refine lv_iconst (v := 1) hx hb dX7_best_104 (by decide) ?_
                          refine zz_cv (WC := [(mo, .inr (7, [.ref ms, .ref mi, .ref ma, .int 0, .ref mts, .ref mtz, .ref mtn, .ref mh, .ref mhn, .ref mhw, .ref mhz, .ref mhr, .ref mcl, .ref mtp, .int 0, .int 0, .int 0, .int 0, .int 0, .int 0, .int 0, .int 0, .int 0, .int 0, .int 0, .ref mna, .ref mpi, .ref mca, .ref mwa, .int 0, .ref mrd])), (ms, .inl (kms, 3047, .inl vf))]) (TC := [(kms, .int)]) (WR := [(mcl, .inl (kcl, 47, .inl c9496))]) (TR := [(kcl, .int)]) (k := 0) (n := 0) Z428 [0, 1] [2] [0] [1] rfl rfl (by decide +kernel) (by decide +kernel) (by decide +kernel) rfl rfl (fun Zc => va_runV (As := [.int 1]) (rest := []) X (c7_goesOnBy l D mo ms mi ma mts mtz mtn mh mhn mhw mhz mhr mcl mtp mna mpi mca mwa mrd 0 0 0 0 0 0 0 0 0 0 0 0 0 kms vf 0 v2 0 0 v5 v6 v7 3 10 0 1 hin.1 hin.2.1 hin.2.2.1 hin.2.2.2.1 hin.2.2.2.2.1 hin.2.2.2.2.2.1 hin.2.2.2.2.2.2.1 hin.2.2.2.2.2.2.2.1 hin.2.2.2.2.2.2.2.2.1 hin.2.2.2.2.2.2.2.2.2.1 hin.2.2.2.2.2.2.2.2.2.2 H425.size) (cwV 1 hts gX7_best_X7_goesOnBy rfl rfl rfl ⟨rfl, zh_X7_goesOnBy⟩ ⟨Nat.le_of_ble_eq_true rfl, Nat.le_of_ble_eq_true rfl⟩) (zz_pV (ci := 7) Zc 0 rfl rfl) rfl rfl hl432.1 rfl (lv_room (Nat.le_of_ble_eq_true rfl)) dX7_best_105 ⟨Nat.le_of_ble_eq_true rfl, Nat.le_of_ble_eq_true rfl⟩) rfl rfl (fun u517 H433 locs434 hw518 Z435 => ?_)
                          clear Z428
                          obtain ⟨f9520, F9521, T9522, Z9523⟩ := u517
                          try dsimp only at hw518 Z435
                          obtain ⟨⟨p524, p525, p526, p527, p528, p529, p530, p531, p532, p533, p534⟩, hx535⟩ := hw518
                          obtain ⟨rfl, rfl, rfl⟩ := hx535
                          have Z436 : zz_S D A s [(mcl, .inl (kcl, 47, .inl c9496)), (mo, .inr (7, [.ref ms, .ref mi, .ref ma, .int 0, .ref mts, .ref mtz, .ref mtn, .ref mh, .ref mhn, .ref mhw, .ref mhz, .ref mhr, .ref mcl, .ref mtp, .int 0, .int 0, .int 0, .int 0, .int 0, .int 0, .int 0, .int 0, .int 0, .int 0, .int 0, .ref mna, .ref mpi, .ref mca, .ref mwa, .int 0, .ref mrd])), (ms, .inl (kms, 3047, .inl f9520))] [(kcl, .int), (kms, .int)] H433 locs434 := Z435
                          clear Z435
                          refine lv_iload hx hb dX7_best_108 (lv_at hl432 1 rfl) ?_
                          refine lv_iconst (v := 3) hx hb dX7_best_110 (by decide) ?_
                          refine lv_idiv hx hb dX7_best_111 (by decide) ?_
                          refine zz_v (v := nI (zz_pw t)) (zz_pw3 t (by omega)) ?_
                          refine lv_istore (lv' := [(7, .int (nI (zz_pw t))), (8, .int y513), (6, .int (nI i)), (5, .int 0), (4, .int (-1)), (3, .int 27), (0, .ref mo), (1, .int 4), (2, .int what)]) hx hb dX7_best_112 hl432 (by decide) rfl (fun ls437 hl438 => ?_)
                          clear hl432
                          refine lv_goto (tgt := 70) hx hb dX7_best_114 (by decide) ?_
                          exact iht (by omega) f9520 (v2 + 1) (zz_bT v5 v6 10) (zz_bZ v6 10) (zz_mF v7 1 v6 3 10) ⟨p524, p525, p526, p527, p528, p529, p530, p531, p532, p533, p534⟩ _ _ _ Z436 (lv_sub hl438 [0, 2, 3, 4, 5, 6, 7, 8] rfl)
                        · refine lv_iconst (v := (-1)) hx hb dX7_best_100 (by decide) ?_
                          refine lv_goto (tgt := 105) hx hb dX7_best_101 (by decide) ?_
                          refine zz_cv (WC := [(mo, .inr (7, [.ref ms, .ref mi, .ref ma, .int 0, .ref mts, .ref mtz, .ref mtn, .ref mh, .ref mhn, .ref mhw, .ref mhz, .ref mhr, .ref mcl, .ref mtp, .int 0, .int 0, .int 0, .int 0, .int 0, .int 0, .int 0, .int 0, .int 0, .int 0, .int 0, .ref mna, .ref mpi, .ref mca, .ref mwa, .int 0, .ref mrd])), (ms, .inl (kms, 3047, .inl vf))]) (TC := [(kms, .int)]) (WR := [(mcl, .inl (kcl, 47, .inl c9496))]) (TR := [(kcl, .int)]) (k := 0) (n := 0) Z428 [0, 1] [2] [0] [1] rfl rfl (by decide +kernel) (by decide +kernel) (by decide +kernel) rfl rfl (fun Zc => va_runV (As := [.int (-1)]) (rest := []) X (c7_goesOnBy l D mo ms mi ma mts mtz mtn mh mhn mhw mhz mhr mcl mtp mna mpi mca mwa mrd 0 0 0 0 0 0 0 0 0 0 0 0 0 kms vf 0 v2 0 0 v5 v6 v7 3 10 0 (-1) hin.1 hin.2.1 hin.2.2.1 hin.2.2.2.1 hin.2.2.2.2.1 hin.2.2.2.2.2.1 hin.2.2.2.2.2.2.1 hin.2.2.2.2.2.2.2.1 hin.2.2.2.2.2.2.2.2.1 hin.2.2.2.2.2.2.2.2.2.1 hin.2.2.2.2.2.2.2.2.2.2 H425.size) (cwV 1 hts gX7_best_X7_goesOnBy rfl rfl rfl ⟨rfl, zh_X7_goesOnBy⟩ ⟨Nat.le_of_ble_eq_true rfl, Nat.le_of_ble_eq_true rfl⟩) (zz_pV (ci := 7) Zc 0 rfl rfl) rfl rfl hl432.1 rfl (lv_room (Nat.le_of_ble_eq_true rfl)) dX7_best_105 ⟨Nat.le_of_ble_eq_true rfl, Nat.le_of_ble_eq_true rfl⟩) rfl rfl (fun u536 H439 locs440 hw537 Z441 => ?_)
                          clear Z428
                          obtain ⟨f9539, F9540, T9541, Z9542⟩ := u536
                          try dsimp only at hw537 Z441
                          obtain ⟨⟨p543, p544, p545, p546, p547, p548, p549, p550, p551, p552, p553⟩, hx554⟩ := hw537
                          obtain ⟨rfl, rfl, rfl⟩ := hx554
                          have Z442 : zz_S D A s [(mcl, .inl (kcl, 47, .inl c9496)), (mo, .inr (7, [.ref ms, .ref mi, .ref ma, .int 0, .ref mts, .ref mtz, .ref mtn, .ref mh, .ref mhn, .ref mhw, .ref mhz, .ref mhr, .ref mcl, .ref mtp, .int 0, .int 0, .int 0, .int 0, .int 0, .int 0, .int 0, .int 0, .int 0, .int 0, .int 0, .ref mna, .ref mpi, .ref mca, .ref mwa, .int 0, .ref mrd])), (ms, .inl (kms, 3047, .inl f9539))] [(kcl, .int), (kms, .int)] H439 locs440 := Z441
                          clear Z441
                          refine lv_iload hx hb dX7_best_108 (lv_at hl432 1 rfl) ?_
                          refine lv_iconst (v := 3) hx hb dX7_best_110 (by decide) ?_
                          refine lv_idiv hx hb dX7_best_111 (by decide) ?_
                          refine zz_v (v := nI (zz_pw t)) (zz_pw3 t (by omega)) ?_
                          refine lv_istore (lv' := [(7, .int (nI (zz_pw t))), (8, .int y513), (6, .int (nI i)), (5, .int 0), (4, .int (-1)), (3, .int 27), (0, .ref mo), (1, .int 4), (2, .int what)]) hx hb dX7_best_112 hl432 (by decide) rfl (fun ls443 hl444 => ?_)
                          clear hl432
                          refine lv_goto (tgt := 70) hx hb dX7_best_114 (by decide) ?_
                          exact iht (by omega) f9539 (v2 + 1) (zz_bT v5 v6 10) (zz_bZ v6 10) (zz_mF v7 (-1) v6 3 10) ⟨p543, p544, p545, p546, p547, p548, p549, p550, p551, p552, p553⟩ _ _ _ Z442 (lv_sub hl444 [0, 2, 3, 4, 5, 6, 7, 8] rfl)
                      · refine lv_iconst (v := 0) hx hb dX7_best_90 (by decide) ?_
                        refine lv_goto (tgt := 105) hx hb dX7_best_91 (by decide) ?_
                        refine zz_cv (WC := [(mo, .inr (7, [.ref ms, .ref mi, .ref ma, .int 0, .ref mts, .ref mtz, .ref mtn, .ref mh, .ref mhn, .ref mhw, .ref mhz, .ref mhr, .ref mcl, .ref mtp, .int 0, .int 0, .int 0, .int 0, .int 0, .int 0, .int 0, .int 0, .int 0, .int 0, .int 0, .ref mna, .ref mpi, .ref mca, .ref mwa, .int 0, .ref mrd])), (ms, .inl (kms, 3047, .inl vf))]) (TC := [(kms, .int)]) (WR := [(mcl, .inl (kcl, 47, .inl c9496))]) (TR := [(kcl, .int)]) (k := 0) (n := 0) Z428 [0, 1] [2] [0] [1] rfl rfl (by decide +kernel) (by decide +kernel) (by decide +kernel) rfl rfl (fun Zc => va_runV (As := [.int 0]) (rest := []) X (c7_goesOnBy l D mo ms mi ma mts mtz mtn mh mhn mhw mhz mhr mcl mtp mna mpi mca mwa mrd 0 0 0 0 0 0 0 0 0 0 0 0 0 kms vf 0 v2 0 0 v5 v6 v7 3 10 0 0 hin.1 hin.2.1 hin.2.2.1 hin.2.2.2.1 hin.2.2.2.2.1 hin.2.2.2.2.2.1 hin.2.2.2.2.2.2.1 hin.2.2.2.2.2.2.2.1 hin.2.2.2.2.2.2.2.2.1 hin.2.2.2.2.2.2.2.2.2.1 hin.2.2.2.2.2.2.2.2.2.2 H425.size) (cwV 1 hts gX7_best_X7_goesOnBy rfl rfl rfl ⟨rfl, zh_X7_goesOnBy⟩ ⟨Nat.le_of_ble_eq_true rfl, Nat.le_of_ble_eq_true rfl⟩) (zz_pV (ci := 7) Zc 0 rfl rfl) rfl rfl hl432.1 rfl (lv_room (Nat.le_of_ble_eq_true rfl)) dX7_best_105 ⟨Nat.le_of_ble_eq_true rfl, Nat.le_of_ble_eq_true rfl⟩) rfl rfl (fun u555 H445 locs446 hw556 Z447 => ?_)
                        clear Z428
                        obtain ⟨f9558, F9559, T9560, Z9561⟩ := u555
                        try dsimp only at hw556 Z447
                        obtain ⟨⟨p562, p563, p564, p565, p566, p567, p568, p569, p570, p571, p572⟩, hx573⟩ := hw556
                        obtain ⟨rfl, rfl, rfl⟩ := hx573
                        have Z448 : zz_S D A s [(mcl, .inl (kcl, 47, .inl c9496)), (mo, .inr (7, [.ref ms, .ref mi, .ref ma, .int 0, .ref mts, .ref mtz, .ref mtn, .ref mh, .ref mhn, .ref mhw, .ref mhz, .ref mhr, .ref mcl, .ref mtp, .int 0, .int 0, .int 0, .int 0, .int 0, .int 0, .int 0, .int 0, .int 0, .int 0, .int 0, .ref mna, .ref mpi, .ref mca, .ref mwa, .int 0, .ref mrd])), (ms, .inl (kms, 3047, .inl f9558))] [(kcl, .int), (kms, .int)] H445 locs446 := Z447
                        clear Z447
                        refine lv_iload hx hb dX7_best_108 (lv_at hl432 1 rfl) ?_
                        refine lv_iconst (v := 3) hx hb dX7_best_110 (by decide) ?_
                        refine lv_idiv hx hb dX7_best_111 (by decide) ?_
                        refine zz_v (v := nI (zz_pw t)) (zz_pw3 t (by omega)) ?_
                        refine lv_istore (lv' := [(7, .int (nI (zz_pw t))), (8, .int y513), (6, .int (nI i)), (5, .int 0), (4, .int (-1)), (3, .int 27), (0, .ref mo), (1, .int 4), (2, .int what)]) hx hb dX7_best_112 hl432 (by decide) rfl (fun ls449 hl450 => ?_)
                        clear hl432
                        refine lv_goto (tgt := 70) hx hb dX7_best_114 (by decide) ?_
                        exact iht (by omega) f9558 (v2 + 1) (zz_bT v5 v6 10) (zz_bZ v6 10) (zz_mF v7 0 v6 3 10) ⟨p562, p563, p564, p565, p566, p567, p568, p569, p570, p571, p572⟩ _ _ _ Z448 (lv_sub hl450 [0, 2, 3, 4, 5, 6, 7, 8] rfl)
                exact inner 4 (by decide) vf 0 0 1 0 ⟨hinv.1, hinv.2.1, hinv.2.2.1, hinv.2.2.2.1, hinv.2.2.2.2.1, hinv.2.2.2.2.2.1, hinv.2.2.2.2.2.2.1, hinv.2.2.2.2.2.2.2.1, hinv.2.2.2.2.2.2.2.2.1, hinv.2.2.2.2.2.2.2.2.2.1, hinv.2.2.2.2.2.2.2.2.2.2.1⟩ _ _ _ Z403 hl406
              · subst hv
                refine lv_iload hx hb dX7_best_59 (lv_at hl404 0 rfl) ?_
                refine lv_iconst (v := 3) hx hb dX7_best_61 (by decide) ?_
                refine lv_iload_n hx hb dX7_best_62 rfl (lv_at hl404 3 rfl) ?_
                refine lv_imul hx hb dX7_best_63 ?_
                refine zz_v (v := 81) (by decide) ?_
                refine lv_icmp_ge (tgt := 155) hx hb dX7_best_64 (by decide) (fun h => absurd h (nI_ge (a := i) (b := 81) (by omega) (by omega))) (fun _ => ?_)
                refine lv_iload_n hx hb dX7_best_67 rfl (lv_at hl404 3 rfl) ?_
                refine lv_istore (lv' := [(7, .int 27), (6, .int (nI i)), (5, .int 0), (4, .int 0), (3, .int 27), (0, .ref mo), (1, .int 4), (2, .int what)]) hx hb dX7_best_68 hl404 (by decide) rfl (fun ls451 hl452 => ?_)
                clear hl404
                have inner : ∀ (t : Nat), t ≤ 5 → ∀ (vf : Nat → Int32) (v2 v5 v6 v7 : Int32), vf 0 = 0 ∧ vf 1 = 0 ∧ vf 2 = v2 ∧ vf 3 = 0 ∧ vf 4 = 0 ∧ vf 5 = v5 ∧ vf 6 = v6 ∧ vf 7 = v7 ∧ vf 8 = 3 ∧ vf 9 = 10 ∧ vf 10 = 0 → ∀ (Hq : Heap) (Lq : List Loc) (lq : Array Slot), zz_S D A s [(mo, .inr (7, [.ref ms, .ref mi, .ref ma, .int 0, .ref mts, .ref mtz, .ref mtn, .ref mh, .ref mhn, .ref mhw, .ref mhz, .ref mhr, .ref mcl, .ref mtp, .int 0, .int 0, .int 0, .int 0, .int 0, .int 0, .int 0, .int 0, .int 0, .int 0, .int 0, .ref mna, .ref mpi, .ref mca, .ref mwa, .int 0, .ref mrd])), (ms, .inl (kms, 3047, .inl vf)), (mcl, .inl (kcl, 47, .inl c9496))] [(kms, .int), (kcl, .int)] Hq Lq → lv_has lq 9 [(7, .int (nI (zz_pw t))), (6, .int (nI i)), (5, .int 0), (4, .int 0), (3, .int 27), (0, .ref mo), (1, .int 4), (2, .int what)] → W p l e (headSpec wsX7_best { frames := 3, cells := 0, slots := 0, locals := 64 }).room s m (List.toArray [.ref mo, .int 4, .int what]) below meth c Hq Lq 0 0 (MQ below (va_Qi (fun (r : Int32) (u : Unit) => r = sp_best 4 what) (fun u t => zz_B D A ((fun (u : Unit) => []) u) ((fun (u : Unit) => []) u) t) A) (List.toArray [.ref mo, .int 4, .int what]) s 0 0 A) (F0 m 70 lq []) := by
                  intro t
                  induction t with
                  | zero =>
                      intro ht vf v2 v5 v6 v7 hin H453 locs454 ls455 Z456 hl457
                      have hl458 : lv_has ls455 9 [(7, .int 0), (6, .int (nI i)), (5, .int 0), (4, .int 0), (3, .int 27), (0, .ref mo), (1, .int 4), (2, .int what)] := hl457
                      clear hl457
                      refine lv_iload hx hb dX7_best_70 (lv_at hl458 0 rfl) ?_
                      refine lv_if_le (tgt := 117) hx hb dX7_best_72 (by decide) (fun _ => ?_) (fun h => absurd (by decide) h)
                      refine lv_aload_n hx hb dX7_best_117 rfl (lv_at hl458 5 rfl) ?_
                      refine zz_get X Z456 0 rfl rfl (fun w h => List.mem_cons_of_mem _ (List.mem_append_right _ h)) 0 rfl (zz_m 3 rfl) rfl dX7_best_118 ?_
                      refine lv_iconst (v := 4) hx hb dX7_best_121 (by decide) ?_
                      refine zz_ild X Z456 1 0 rfl rfl (zz_in 4 3047 rfl) dX7_best_122 ?_
                      refine zz_v (v := 0) hin.2.2.2.2.1 ?_
                      refine lv_istore (lv' := [(7, .int 0), (6, .int (nI i)), (5, .int 0), (4, .int 0), (3, .int 27), (0, .ref mo), (1, .int 4), (2, .int what)]) hx hb dX7_best_123 hl458 (by decide) rfl (fun ls459 hl460 => ?_)
                      clear hl458
                      refine lv_aload_n hx hb dX7_best_125 rfl (lv_at hl460 5 rfl) ?_
                      refine zz_cv (WC := [(mo, .inr (7, [.ref ms, .ref mi, .ref ma, .int 0, .ref mts, .ref mtz, .ref mtn, .ref mh, .ref mhn, .ref mhw, .ref mhz, .ref mhr, .ref mcl, .ref mtp, .int 0, .int 0, .int 0, .int 0, .int 0, .int 0, .int 0, .int 0, .int 0, .int 0, .int 0, .ref mna, .ref mpi, .ref mca, .ref mwa, .int 0, .ref mrd])), (ms, .inl (kms, 3047, .inl vf)), (mcl, .inl (kcl, 47, .inl c9496))]) (TC := [(kms, .int), (kcl, .int)]) (WR := []) (TR := []) (k := 0) (n := 0) Z456 [0, 1, 2] [] [0, 1] [] rfl rfl (by decide +kernel) (by decide +kernel) (by decide +kernel) rfl rfl (fun Zc => va_runV (As := []) (rest := []) X (c7_laysBack l D mo ms mi ma mts mtz mtn mh mhn mhw mhz mhr mcl mtp mna mpi mca mwa mrd 0 0 0 0 0 0 0 0 0 0 0 0 0 kms vf kcl c9496 H453.size) (cwV 0 hts gX7_best_X7_laysBack rfl rfl rfl ⟨rfl, zh_X7_laysBack⟩ ⟨Nat.le_of_ble_eq_true rfl, Nat.le_of_ble_eq_true rfl⟩) (zz_pV (ci := 7) Zc 0 rfl rfl) rfl rfl hl460.1 rfl (lv_room (Nat.le_of_ble_eq_true rfl)) dX7_best_126 ⟨Nat.le_of_ble_eq_true rfl, Nat.le_of_ble_eq_true rfl⟩) rfl rfl (fun u574 H461 locs462 hw575 Z463 => ?_)
                      clear Z456
                      obtain ⟨f9577, rfl⟩ : ∃ z, z = u574 := ⟨_, rfl⟩
                      try dsimp only at hw575 Z463
                      have Z464 : zz_S D A s [(mo, .inr (7, [.ref ms, .ref mi, .ref ma, .int 0, .ref mts, .ref mtz, .ref mtn, .ref mh, .ref mhn, .ref mhw, .ref mhz, .ref mhr, .ref mcl, .ref mtp, .int 0, .int 0, .int 0, .int 0, .int 0, .int 0, .int 0, .int 0, .int 0, .int 0, .int 0, .ref mna, .ref mpi, .ref mca, .ref mwa, .int 0, .ref mrd])), (ms, .inl (kms, 3047, .inl f9577)), (mcl, .inl (kcl, 47, .inl c9496))] [(kms, .int), (kcl, .int)] H461 locs462 := Z463
                      clear Z463
                      have p578 : f9577 0 = 0 := (hw575 0 (by decide)).trans ((hw494 0 (by decide)).trans af_0)
                      have p579 : f9577 1 = 0 := (hw575 1 (by decide)).trans ((hw494 1 (by decide)).trans af_1)
                      have p580 : f9577 2 = 0 := (hw575 2 (by decide)).trans ((hw494 2 (by decide)).trans af_2)
                      have p581 : f9577 3 = 0 := (hw575 3 (by decide)).trans ((hw494 3 (by decide)).trans af_3)
                      have p582 : f9577 4 = 0 := (hw575 4 (by decide)).trans ((hw494 4 (by decide)).trans af_4)
                      have p583 : f9577 5 = 0 := (hw575 5 (by decide)).trans ((hw494 5 (by decide)).trans af_5)
                      have p584 : f9577 6 = 1 := (hw575 6 (by decide)).trans ((hw494 6 (by decide)).trans af_6)
                      have p585 : f9577 7 = 0 := (hw575 7 (by decide)).trans ((hw494 7 (by decide)).trans af_7)
                      have p586 : f9577 8 = 3 := (hw575 8 (by decide)).trans ((hw494 8 (by decide)).trans af_8)
                      have p587 : f9577 9 = 10 := (hw575 9 (by decide)).trans ((hw494 9 (by decide)).trans af_9)
                      have p588 : f9577 10 = 0 := (hw575 10 (by decide)).trans ((hw494 10 (by decide)).trans af_10)
                      refine lv_iload hx hb dX7_best_129 (lv_at hl460 3 rfl) ?_
                      refine lv_if_lt (tgt := 141) hx hb dX7_best_131 (by decide) (fun h => absurd h (by decide)) (fun _ => ?_)
                      refine lv_iload hx hb dX7_best_134 (lv_at hl460 0 rfl) ?_
                      refine lv_iload hx hb dX7_best_136 (lv_at hl460 2 rfl) ?_
                      refine lv_icmp_ge (tgt := 149) hx hb dX7_best_138 (by decide) (fun _ => ?_) (fun h => absurd (by decide) h)
                      refine lv_iinc (v := nI (i + 1)) (lv' := [(6, .int (nI (i + 1))), (7, .int 0), (5, .int 0), (4, .int 0), (3, .int 27), (0, .ref mo), (1, .int 4), (2, .int what)]) hx hb dX7_best_149 hl460 (k := 1) rfl (nI_1 i) (by decide) rfl (fun ls465 hl466 => ?_)
                      clear hl460
                      refine lv_goto (tgt := 59) hx hb dX7_best_152 (by decide) ?_
                      exact ih (i + 1) f9577 0 (by omega) ⟨p578, p579, p580, p581, p582, p583, p584, p585, p586, p587, p588, (Or.inr ⟨by omega, rfl⟩)⟩ _ _ _ Z464 (lv_sub hl466 [0, 2, 3, 4, 5, 6, 7] rfl)
                  | succ t iht =>
                      intro ht vf v2 v5 v6 v7 hin H467 locs468 ls469 Z470 hl471
                      have hl472 : lv_has ls469 9 [(7, .int (nI (zz_pw (t + 1)))), (6, .int (nI i)), (5, .int 0), (4, .int 0), (3, .int 27), (0, .ref mo), (1, .int 4), (2, .int what)] := hl471
                      clear hl471
                      refine lv_iload hx hb dX7_best_70 (lv_at hl472 0 rfl) ?_
                      refine lv_if_le (tgt := 117) hx hb dX7_best_72 (by decide) (fun h => absurd h (nI_nle (zz_pwP t (by omega)).1 (zz_pwP t (by omega)).2)) (fun _ => ?_)
                      refine lv_iload hx hb dX7_best_75 (lv_at hl472 1 rfl) ?_
                      refine lv_iload hx hb dX7_best_77 (lv_at hl472 0 rfl) ?_
                      refine lv_idiv hx hb dX7_best_79 (nI_ne0 (zz_pwP t (by omega)).1 (zz_pwP t (by omega)).2) ?_
                      refine lv_iconst (v := 3) hx hb dX7_best_80 (by decide) ?_
                      refine lv_irem hx hb dX7_best_81 (by decide) ?_
                      refine lv_topi (fun y589 ey590 => ?_)
                      refine lv_istore (lv' := [(8, .int y589), (7, .int (nI (zz_pw (t + 1)))), (6, .int (nI i)), (5, .int 0), (4, .int 0), (3, .int 27), (0, .ref mo), (1, .int 4), (2, .int what)]) hx hb dX7_best_82 hl472 (by decide) rfl (fun ls473 hl474 => ?_)
                      clear hl472
                      refine lv_aload_n hx hb dX7_best_84 rfl (lv_at hl474 6 rfl) ?_
                      refine lv_iload hx hb dX7_best_85 (lv_at hl474 0 rfl) ?_
                      refine lv_if_ne (tgt := 94) hx hb dX7_best_87 (by decide) (fun b591 => ?_) (fun b591 => ?_)
                      · refine lv_iload hx hb dX7_best_94 (lv_at hl474 0 rfl) ?_
                        refine lv_iconst (v := 1) hx hb dX7_best_96 (by decide) ?_
                        refine lv_icmp_ne (tgt := 104) hx hb dX7_best_97 (by decide) (fun b592 => ?_) (fun b592 => ?_)
                        · refine lv_iconst (v := 1) hx hb dX7_best_104 (by decide) ?_
                          refine zz_cv (WC := [(mo, .inr (7, [.ref ms, .ref mi, .ref ma, .int 0, .ref mts, .ref mtz, .ref mtn, .ref mh, .ref mhn, .ref mhw, .ref mhz, .ref mhr, .ref mcl, .ref mtp, .int 0, .int 0, .int 0, .int 0, .int 0, .int 0, .int 0, .int 0, .int 0, .int 0, .int 0, .ref mna, .ref mpi, .ref mca, .ref mwa, .int 0, .ref mrd])), (ms, .inl (kms, 3047, .inl vf))]) (TC := [(kms, .int)]) (WR := [(mcl, .inl (kcl, 47, .inl c9496))]) (TR := [(kcl, .int)]) (k := 0) (n := 0) Z470 [0, 1] [2] [0] [1] rfl rfl (by decide +kernel) (by decide +kernel) (by decide +kernel) rfl rfl (fun Zc => va_runV (As := [.int 1]) (rest := []) X (c7_goesOnBy l D mo ms mi ma mts mtz mtn mh mhn mhw mhz mhr mcl mtp mna mpi mca mwa mrd 0 0 0 0 0 0 0 0 0 0 0 0 0 kms vf 0 v2 0 0 v5 v6 v7 3 10 0 1 hin.1 hin.2.1 hin.2.2.1 hin.2.2.2.1 hin.2.2.2.2.1 hin.2.2.2.2.2.1 hin.2.2.2.2.2.2.1 hin.2.2.2.2.2.2.2.1 hin.2.2.2.2.2.2.2.2.1 hin.2.2.2.2.2.2.2.2.2.1 hin.2.2.2.2.2.2.2.2.2.2 H467.size) (cwV 1 hts gX7_best_X7_goesOnBy rfl rfl rfl ⟨rfl, zh_X7_goesOnBy⟩ ⟨Nat.le_of_ble_eq_true rfl, Nat.le_of_ble_eq_true rfl⟩) (zz_pV (ci := 7) Zc 0 rfl rfl) rfl rfl hl474.1 rfl (lv_room (Nat.le_of_ble_eq_true rfl)) dX7_best_105 ⟨Nat.le_of_ble_eq_true rfl, Nat.le_of_ble_eq_true rfl⟩) rfl rfl (fun u593 H475 locs476 hw594 Z477 => ?_)
                          clear Z470
                          obtain ⟨f9596, F9597, T9598, Z9599⟩ := u593
                          try dsimp only at hw594 Z477
                          obtain ⟨⟨p600, p601, p602, p603, p604, p605, p606, p607, p608, p609, p610⟩, hx611⟩ := hw594
                          obtain ⟨rfl, rfl, rfl⟩ := hx611
                          have Z478 : zz_S D A s [(mcl, .inl (kcl, 47, .inl c9496)), (mo, .inr (7, [.ref ms, .ref mi, .ref ma, .int 0, .ref mts, .ref mtz, .ref mtn, .ref mh, .ref mhn, .ref mhw, .ref mhz, .ref mhr, .ref mcl, .ref mtp, .int 0, .int 0, .int 0, .int 0, .int 0, .int 0, .int 0, .int 0, .int 0, .int 0, .int 0, .ref mna, .ref mpi, .ref mca, .ref mwa, .int 0, .ref mrd])), (ms, .inl (kms, 3047, .inl f9596))] [(kcl, .int), (kms, .int)] H475 locs476 := Z477
                          clear Z477
                          refine lv_iload hx hb dX7_best_108 (lv_at hl474 1 rfl) ?_
                          refine lv_iconst (v := 3) hx hb dX7_best_110 (by decide) ?_
                          refine lv_idiv hx hb dX7_best_111 (by decide) ?_
                          refine zz_v (v := nI (zz_pw t)) (zz_pw3 t (by omega)) ?_
                          refine lv_istore (lv' := [(7, .int (nI (zz_pw t))), (8, .int y589), (6, .int (nI i)), (5, .int 0), (4, .int 0), (3, .int 27), (0, .ref mo), (1, .int 4), (2, .int what)]) hx hb dX7_best_112 hl474 (by decide) rfl (fun ls479 hl480 => ?_)
                          clear hl474
                          refine lv_goto (tgt := 70) hx hb dX7_best_114 (by decide) ?_
                          exact iht (by omega) f9596 (v2 + 1) (zz_bT v5 v6 10) (zz_bZ v6 10) (zz_mF v7 1 v6 3 10) ⟨p600, p601, p602, p603, p604, p605, p606, p607, p608, p609, p610⟩ _ _ _ Z478 (lv_sub hl480 [0, 2, 3, 4, 5, 6, 7, 8] rfl)
                        · refine lv_iconst (v := (-1)) hx hb dX7_best_100 (by decide) ?_
                          refine lv_goto (tgt := 105) hx hb dX7_best_101 (by decide) ?_
                          refine zz_cv (WC := [(mo, .inr (7, [.ref ms, .ref mi, .ref ma, .int 0, .ref mts, .ref mtz, .ref mtn, .ref mh, .ref mhn, .ref mhw, .ref mhz, .ref mhr, .ref mcl, .ref mtp, .int 0, .int 0, .int 0, .int 0, .int 0, .int 0, .int 0, .int 0, .int 0, .int 0, .int 0, .ref mna, .ref mpi, .ref mca, .ref mwa, .int 0, .ref mrd])), (ms, .inl (kms, 3047, .inl vf))]) (TC := [(kms, .int)]) (WR := [(mcl, .inl (kcl, 47, .inl c9496))]) (TR := [(kcl, .int)]) (k := 0) (n := 0) Z470 [0, 1] [2] [0] [1] rfl rfl (by decide +kernel) (by decide +kernel) (by decide +kernel) rfl rfl (fun Zc => va_runV (As := [.int (-1)]) (rest := []) X (c7_goesOnBy l D mo ms mi ma mts mtz mtn mh mhn mhw mhz mhr mcl mtp mna mpi mca mwa mrd 0 0 0 0 0 0 0 0 0 0 0 0 0 kms vf 0 v2 0 0 v5 v6 v7 3 10 0 (-1) hin.1 hin.2.1 hin.2.2.1 hin.2.2.2.1 hin.2.2.2.2.1 hin.2.2.2.2.2.1 hin.2.2.2.2.2.2.1 hin.2.2.2.2.2.2.2.1 hin.2.2.2.2.2.2.2.2.1 hin.2.2.2.2.2.2.2.2.2.1 hin.2.2.2.2.2.2.2.2.2.2 H467.size) (cwV 1 hts gX7_best_X7_goesOnBy rfl rfl rfl ⟨rfl, zh_X7_goesOnBy⟩ ⟨Nat.le_of_ble_eq_true rfl, Nat.le_of_ble_eq_true rfl⟩) (zz_pV (ci := 7) Zc 0 rfl rfl) rfl rfl hl474.1 rfl (lv_room (Nat.le_of_ble_eq_true rfl)) dX7_best_105 ⟨Nat.le_of_ble_eq_true rfl, Nat.le_of_ble_eq_true rfl⟩) rfl rfl (fun u612 H481 locs482 hw613 Z483 => ?_)
                          clear Z470
                          obtain ⟨f9615, F9616, T9617, Z9618⟩ := u612
                          try dsimp only at hw613 Z483
                          obtain ⟨⟨p619, p620, p621, p622, p623, p624, p625, p626, p627, p628, p629⟩, hx630⟩ := hw613
                          obtain ⟨rfl, rfl, rfl⟩ := hx630
                          have Z484 : zz_S D A s [(mcl, .inl (kcl, 47, .inl c9496)), (mo, .inr (7, [.ref ms, .ref mi, .ref ma, .int 0, .ref mts, .ref mtz, .ref mtn, .ref mh, .ref mhn, .ref mhw, .ref mhz, .ref mhr, .ref mcl, .ref mtp, .int 0, .int 0, .int 0, .int 0, .int 0, .int 0, .int 0, .int 0, .int 0, .int 0, .int 0, .ref mna, .ref mpi, .ref mca, .ref mwa, .int 0, .ref mrd])), (ms, .inl (kms, 3047, .inl f9615))] [(kcl, .int), (kms, .int)] H481 locs482 := Z483
                          clear Z483
                          refine lv_iload hx hb dX7_best_108 (lv_at hl474 1 rfl) ?_
                          refine lv_iconst (v := 3) hx hb dX7_best_110 (by decide) ?_
                          refine lv_idiv hx hb dX7_best_111 (by decide) ?_
                          refine zz_v (v := nI (zz_pw t)) (zz_pw3 t (by omega)) ?_
                          refine lv_istore (lv' := [(7, .int (nI (zz_pw t))), (8, .int y589), (6, .int (nI i)), (5, .int 0), (4, .int 0), (3, .int 27), (0, .ref mo), (1, .int 4), (2, .int what)]) hx hb dX7_best_112 hl474 (by decide) rfl (fun ls485 hl486 => ?_)
                          clear hl474
                          refine lv_goto (tgt := 70) hx hb dX7_best_114 (by decide) ?_
                          exact iht (by omega) f9615 (v2 + 1) (zz_bT v5 v6 10) (zz_bZ v6 10) (zz_mF v7 (-1) v6 3 10) ⟨p619, p620, p621, p622, p623, p624, p625, p626, p627, p628, p629⟩ _ _ _ Z484 (lv_sub hl486 [0, 2, 3, 4, 5, 6, 7, 8] rfl)
                      · refine lv_iconst (v := 0) hx hb dX7_best_90 (by decide) ?_
                        refine lv_goto (tgt := 105) hx hb dX7_best_91 (by decide) ?_
                        refine zz_cv (WC := [(mo, .inr (7, [.ref ms, .ref mi, .ref ma, .int 0, .ref mts, .ref mtz, .ref mtn, .ref mh, .ref mhn, .ref mhw, .ref mhz, .ref mhr, .ref mcl, .ref mtp, .int 0, .int 0, .int 0, .int 0, .int 0, .int 0, .int 0, .int 0, .int 0, .int 0, .int 0, .ref mna, .ref mpi, .ref mca, .ref mwa, .int 0, .ref mrd])), (ms, .inl (kms, 3047, .inl vf))]) (TC := [(kms, .int)]) (WR := [(mcl, .inl (kcl, 47, .inl c9496))]) (TR := [(kcl, .int)]) (k := 0) (n := 0) Z470 [0, 1] [2] [0] [1] rfl rfl (by decide +kernel) (by decide +kernel) (by decide +kernel) rfl rfl (fun Zc => va_runV (As := [.int 0]) (rest := []) X (c7_goesOnBy l D mo ms mi ma mts mtz mtn mh mhn mhw mhz mhr mcl mtp mna mpi mca mwa mrd 0 0 0 0 0 0 0 0 0 0 0 0 0 kms vf 0 v2 0 0 v5 v6 v7 3 10 0 0 hin.1 hin.2.1 hin.2.2.1 hin.2.2.2.1 hin.2.2.2.2.1 hin.2.2.2.2.2.1 hin.2.2.2.2.2.2.1 hin.2.2.2.2.2.2.2.1 hin.2.2.2.2.2.2.2.2.1 hin.2.2.2.2.2.2.2.2.2.1 hin.2.2.2.2.2.2.2.2.2.2 H467.size) (cwV 1 hts gX7_best_X7_goesOnBy rfl rfl rfl ⟨rfl, zh_X7_goesOnBy⟩ ⟨Nat.le_of_ble_eq_true rfl, Nat.le_of_ble_eq_true rfl⟩) (zz_pV (ci := 7) Zc 0 rfl rfl) rfl rfl hl474.1 rfl (lv_room (Nat.le_of_ble_eq_true rfl)) dX7_best_105 ⟨Nat.le_of_ble_eq_true rfl, Nat.le_of_ble_eq_true rfl⟩) rfl rfl (fun u631 H487 locs488 hw632 Z489 => ?_)
                        clear Z470
                        obtain ⟨f9634, F9635, T9636, Z9637⟩ := u631
                        try dsimp only at hw632 Z489
                        obtain ⟨⟨p638, p639, p640, p641, p642, p643, p644, p645, p646, p647, p648⟩, hx649⟩ := hw632
                        obtain ⟨rfl, rfl, rfl⟩ := hx649
                        have Z490 : zz_S D A s [(mcl, .inl (kcl, 47, .inl c9496)), (mo, .inr (7, [.ref ms, .ref mi, .ref ma, .int 0, .ref mts, .ref mtz, .ref mtn, .ref mh, .ref mhn, .ref mhw, .ref mhz, .ref mhr, .ref mcl, .ref mtp, .int 0, .int 0, .int 0, .int 0, .int 0, .int 0, .int 0, .int 0, .int 0, .int 0, .int 0, .ref mna, .ref mpi, .ref mca, .ref mwa, .int 0, .ref mrd])), (ms, .inl (kms, 3047, .inl f9634))] [(kcl, .int), (kms, .int)] H487 locs488 := Z489
                        clear Z489
                        refine lv_iload hx hb dX7_best_108 (lv_at hl474 1 rfl) ?_
                        refine lv_iconst (v := 3) hx hb dX7_best_110 (by decide) ?_
                        refine lv_idiv hx hb dX7_best_111 (by decide) ?_
                        refine zz_v (v := nI (zz_pw t)) (zz_pw3 t (by omega)) ?_
                        refine lv_istore (lv' := [(7, .int (nI (zz_pw t))), (8, .int y589), (6, .int (nI i)), (5, .int 0), (4, .int 0), (3, .int 27), (0, .ref mo), (1, .int 4), (2, .int what)]) hx hb dX7_best_112 hl474 (by decide) rfl (fun ls491 hl492 => ?_)
                        clear hl474
                        refine lv_goto (tgt := 70) hx hb dX7_best_114 (by decide) ?_
                        exact iht (by omega) f9634 (v2 + 1) (zz_bT v5 v6 10) (zz_bZ v6 10) (zz_mF v7 0 v6 3 10) ⟨p638, p639, p640, p641, p642, p643, p644, p645, p646, p647, p648⟩ _ _ _ Z490 (lv_sub hl492 [0, 2, 3, 4, 5, 6, 7, 8] rfl)
                exact inner 4 (by decide) vf 0 0 1 0 ⟨hinv.1, hinv.2.1, hinv.2.2.1, hinv.2.2.2.1, hinv.2.2.2.2.1, hinv.2.2.2.2.2.1, hinv.2.2.2.2.2.2.1, hinv.2.2.2.2.2.2.2.1, hinv.2.2.2.2.2.2.2.2.1, hinv.2.2.2.2.2.2.2.2.2.1, hinv.2.2.2.2.2.2.2.2.2.2.1⟩ _ _ _ Z403 hl452
        exact loop 81 0 f (-1) (by omega) ⟨af_0, af_1, af_2, af_3, af_4, af_5, af_6, af_7, af_8, af_9, af_10, (Or.inl ⟨rfl, rfl⟩)⟩ _ _ _ Z388 hl394
      · refine zz_v (v := 0) (zz_wiF w492) ?_
        refine lv_if_ne (tgt := 25) hx hb dX7_best_19 (by decide) (fun h => absurd (by decide) h) (fun _ => ?_)
        refine lv_ldc (v := (-1000000001)) hx hb hown (hts _ (zz_m 2 rfl)) dX7_best_22 ?_
        exact zz_iret X hr hlk Z368 () (by simp [sp_best, w492]) [] [] (by decide +kernel) rfl rfl dX7_best_24
    · have e5 : n = 5 := e5
      subst e5
      refine zz_v (v := 1) (by decide) ?_
      refine lv_if_eq (tgt := 22) hx hb dX7_best_9 (by decide) (fun h => absurd h (by decide)) (fun _ => ?_)
      refine lv_iload_n hx hb dX7_best_12 rfl (lv_at hl 2 rfl) ?_
      refine lv_i2l (v := Int32.toInt64 what) hx hb dX7_best_13 rfl ?_
      refine lv_lconst (v := 0) hx hb dX7_best_14 (by decide) ?_
      refine zz_vl (v := Int32.toInt64 0) (by decide) ?_
      refine lv_lconst (v := 1) hx hb dX7_best_15 (by decide) ?_
      refine zz_vl (v := Int32.toInt64 1) (by decide) ?_
      refine zz_ci (WC := []) (TC := []) (WR := [(mo, .inr (7, [.ref ms, .ref mi, .ref ma, .int 0, .ref mts, .ref mtz, .ref mtn, .ref mh, .ref mhn, .ref mhw, .ref mhz, .ref mhr, .ref mcl, .ref mtp, .int 0, .int 0, .int 0, .int 0, .int 0, .int 0, .int 0, .int 0, .int 0, .int 0, .int 0, .ref mna, .ref mpi, .ref mca, .ref mwa, .int 0, .ref mrd])), (ms, .inl (kms, 3047, .inl f)), (mcl, .inl (kcl, 47, .inl cf))]) (TR := [(kms, .int), (kcl, .int)]) (k := 0) (n := 0) Z4 [] [0, 1, 2] [] [0, 1] rfl rfl (by decide +kernel) (by decide +kernel) (by decide +kernel) rfl rfl (fun Zc => va_runS (As := [.long (Int32.toInt64 what), .long (Int32.toInt64 0), .long (Int32.toInt64 1)]) (rest := []) X (c_isIn l D what 0 1 H1.size) (va_cwS 3 hts gX7_best_X7_isIn rfl rfl rfl zh_X7_isIn ⟨Nat.le_of_ble_eq_true rfl, Nat.le_of_ble_eq_true rfl⟩) (zz_pS Zc) rfl rfl hl.1 rfl (lv_room (Nat.le_of_ble_eq_true rfl)) dX7_best_16 ⟨Nat.le_of_ble_eq_true rfl, Nat.le_of_ble_eq_true rfl⟩) rfl rfl (fun r652 u650 H493 locs494 hw651 Z495 => ?_)
      clear Z4
      subst r652
      have Z496 : zz_S D A s [(mo, .inr (7, [.ref ms, .ref mi, .ref ma, .int 0, .ref mts, .ref mtz, .ref mtn, .ref mh, .ref mhn, .ref mhw, .ref mhz, .ref mhr, .ref mcl, .ref mtp, .int 0, .int 0, .int 0, .int 0, .int 0, .int 0, .int 0, .int 0, .int 0, .int 0, .int 0, .ref mna, .ref mpi, .ref mca, .ref mwa, .int 0, .ref mrd])), (ms, .inl (kms, 3047, .inl f)), (mcl, .inl (kcl, 47, .inl cf))] [(kms, .int), (kcl, .int)] H493 locs494 := Z495
      clear Z495
      by_cases w653 : 0 ≤ what ∧ what ≤ 1
      · refine zz_v (v := 1) (zz_wiT w653) ?_
        refine lv_if_ne (tgt := 25) hx hb dX7_best_19 (by decide) (fun _ => ?_) (fun h => absurd h (by decide))
        refine lv_iconst (v := 1) hx hb dX7_best_25 (by decide) ?_
        refine lv_istore_n (lv' := [(3, .int 1), (0, .ref mo), (1, .int 5), (2, .int what)]) hx hb dX7_best_26 rfl hl (by decide) rfl (fun ls497 hl498 => ?_)
        clear hl
        refine lv_iconst (v := 1) hx hb dX7_best_27 (by decide) ?_
        refine lv_istore (lv' := [(4, .int 1), (3, .int 1), (0, .ref mo), (1, .int 5), (2, .int what)]) hx hb dX7_best_28 hl498 (by decide) rfl (fun ls499 hl500 => ?_)
        clear hl498
        refine lv_iload hx hb dX7_best_30 (lv_at hl500 0 rfl) ?_
        refine lv_iload_n hx hb dX7_best_32 rfl (lv_at hl500 3 rfl) ?_
        refine lv_icmp_ge (tgt := 46) hx hb dX7_best_33 (by decide) (fun h => absurd h (by decide)) (fun _ => ?_)
        refine lv_iload_n hx hb dX7_best_36 rfl (lv_at hl500 1 rfl) ?_
        refine lv_iconst (v := 3) hx hb dX7_best_37 (by decide) ?_
        refine lv_imul hx hb dX7_best_38 ?_
        refine zz_v (v := 3) (by decide) ?_
        refine lv_istore_n (lv' := [(3, .int 3), (4, .int 1), (0, .ref mo), (1, .int 5), (2, .int what)]) hx hb dX7_best_39 rfl hl500 (by decide) rfl (fun ls501 hl502 => ?_)
        clear hl500
        refine lv_iinc (v := 2) (lv' := [(4, .int 2), (3, .int 3), (0, .ref mo), (1, .int 5), (2, .int what)]) hx hb dX7_best_40 hl502 (k := 1) rfl (by decide) (by decide) rfl (fun ls503 hl504 => ?_)
        clear hl502
        refine lv_goto (tgt := 30) hx hb dX7_best_43 (by decide) ?_
        refine lv_iload hx hb dX7_best_30 (lv_at hl504 0 rfl) ?_
        refine lv_iload_n hx hb dX7_best_32 rfl (lv_at hl504 3 rfl) ?_
        refine lv_icmp_ge (tgt := 46) hx hb dX7_best_33 (by decide) (fun h => absurd h (by decide)) (fun _ => ?_)
        refine lv_iload_n hx hb dX7_best_36 rfl (lv_at hl504 1 rfl) ?_
        refine lv_iconst (v := 3) hx hb dX7_best_37 (by decide) ?_
        refine lv_imul hx hb dX7_best_38 ?_
        refine zz_v (v := 9) (by decide) ?_
        refine lv_istore_n (lv' := [(3, .int 9), (4, .int 2), (0, .ref mo), (1, .int 5), (2, .int what)]) hx hb dX7_best_39 rfl hl504 (by decide) rfl (fun ls505 hl506 => ?_)
        clear hl504
        refine lv_iinc (v := 3) (lv' := [(4, .int 3), (3, .int 9), (0, .ref mo), (1, .int 5), (2, .int what)]) hx hb dX7_best_40 hl506 (k := 1) rfl (by decide) (by decide) rfl (fun ls507 hl508 => ?_)
        clear hl506
        refine lv_goto (tgt := 30) hx hb dX7_best_43 (by decide) ?_
        refine lv_iload hx hb dX7_best_30 (lv_at hl508 0 rfl) ?_
        refine lv_iload_n hx hb dX7_best_32 rfl (lv_at hl508 3 rfl) ?_
        refine lv_icmp_ge (tgt := 46) hx hb dX7_best_33 (by decide) (fun h => absurd h (by decide)) (fun _ => ?_)
        refine lv_iload_n hx hb dX7_best_36 rfl (lv_at hl508 1 rfl) ?_
        refine lv_iconst (v := 3) hx hb dX7_best_37 (by decide) ?_
        refine lv_imul hx hb dX7_best_38 ?_
        refine zz_v (v := 27) (by decide) ?_
        refine lv_istore_n (lv' := [(3, .int 27), (4, .int 3), (0, .ref mo), (1, .int 5), (2, .int what)]) hx hb dX7_best_39 rfl hl508 (by decide) rfl (fun ls509 hl510 => ?_)
        clear hl508
        refine lv_iinc (v := 4) (lv' := [(4, .int 4), (3, .int 27), (0, .ref mo), (1, .int 5), (2, .int what)]) hx hb dX7_best_40 hl510 (k := 1) rfl (by decide) (by decide) rfl (fun ls511 hl512 => ?_)
        clear hl510
        refine lv_goto (tgt := 30) hx hb dX7_best_43 (by decide) ?_
        refine lv_iload hx hb dX7_best_30 (lv_at hl512 0 rfl) ?_
        refine lv_iload_n hx hb dX7_best_32 rfl (lv_at hl512 3 rfl) ?_
        refine lv_icmp_ge (tgt := 46) hx hb dX7_best_33 (by decide) (fun h => absurd h (by decide)) (fun _ => ?_)
        refine lv_iload_n hx hb dX7_best_36 rfl (lv_at hl512 1 rfl) ?_
        refine lv_iconst (v := 3) hx hb dX7_best_37 (by decide) ?_
        refine lv_imul hx hb dX7_best_38 ?_
        refine zz_v (v := 81) (by decide) ?_
        refine lv_istore_n (lv' := [(3, .int 81), (4, .int 4), (0, .ref mo), (1, .int 5), (2, .int what)]) hx hb dX7_best_39 rfl hl512 (by decide) rfl (fun ls513 hl514 => ?_)
        clear hl512
        refine lv_iinc (v := 5) (lv' := [(4, .int 5), (3, .int 81), (0, .ref mo), (1, .int 5), (2, .int what)]) hx hb dX7_best_40 hl514 (k := 1) rfl (by decide) (by decide) rfl (fun ls515 hl516 => ?_)
        clear hl514
        refine lv_goto (tgt := 30) hx hb dX7_best_43 (by decide) ?_
        refine lv_iload hx hb dX7_best_30 (lv_at hl516 0 rfl) ?_
        refine lv_iload_n hx hb dX7_best_32 rfl (lv_at hl516 3 rfl) ?_
        refine lv_icmp_ge (tgt := 46) hx hb dX7_best_33 (by decide) (fun _ => ?_) (fun h => absurd (by decide) h)
        refine lv_aload_n hx hb dX7_best_46 rfl (lv_at hl516 2 rfl) ?_
        refine zz_cv (WC := [(mo, .inr (7, [.ref ms, .ref mi, .ref ma, .int 0, .ref mts, .ref mtz, .ref mtn, .ref mh, .ref mhn, .ref mhw, .ref mhz, .ref mhr, .ref mcl, .ref mtp, .int 0, .int 0, .int 0, .int 0, .int 0, .int 0, .int 0, .int 0, .int 0, .int 0, .int 0, .ref mna, .ref mpi, .ref mca, .ref mwa, .int 0, .ref mrd])), (ms, .inl (kms, 3047, .inl f)), (mcl, .inl (kcl, 47, .inl cf))]) (TC := [(kms, .int), (kcl, .int)]) (WR := []) (TR := []) (k := 0) (n := 0) Z496 [0, 1, 2] [] [0, 1] [] rfl rfl (by decide +kernel) (by decide +kernel) (by decide +kernel) rfl rfl (fun Zc => va_runV (As := []) (rest := []) X (c7_laysBy l D mo ms mi ma mts mtz mtn mh mhn mhw mhz mhr mcl mtp mna mpi mca mwa mrd 0 0 0 0 0 0 0 0 0 0 0 0 0 kms f kcl cf H493.size) (cwV 0 hts gX7_best_X7_laysBy rfl rfl rfl ⟨rfl, zh_X7_laysBy⟩ ⟨Nat.le_of_ble_eq_true rfl, Nat.le_of_ble_eq_true rfl⟩) (zz_pV (ci := 7) Zc 0 rfl rfl) rfl rfl hl516.1 rfl (lv_room (Nat.le_of_ble_eq_true rfl)) dX7_best_47 ⟨Nat.le_of_ble_eq_true rfl, Nat.le_of_ble_eq_true rfl⟩) rfl rfl (fun u654 H517 locs518 hw655 Z519 => ?_)
        clear Z496
        obtain ⟨c9657, rfl⟩ : ∃ z, z = u654 := ⟨_, rfl⟩
        try dsimp only at hw655 Z519
        have Z520 : zz_S D A s [(mo, .inr (7, [.ref ms, .ref mi, .ref ma, .int 0, .ref mts, .ref mtz, .ref mtn, .ref mh, .ref mhn, .ref mhw, .ref mhz, .ref mhr, .ref mcl, .ref mtp, .int 0, .int 0, .int 0, .int 0, .int 0, .int 0, .int 0, .int 0, .int 0, .int 0, .int 0, .ref mna, .ref mpi, .ref mca, .ref mwa, .int 0, .ref mrd])), (ms, .inl (kms, 3047, .inl f)), (mcl, .inl (kcl, 47, .inl c9657))] [(kms, .int), (kcl, .int)] H517 locs518 := Z519
        clear Z519
        refine lv_iconst (v := (-1)) hx hb dX7_best_50 (by decide) ?_
        refine lv_istore (lv' := [(4, .int (-1)), (3, .int 81), (0, .ref mo), (1, .int 5), (2, .int what)]) hx hb dX7_best_51 hl516 (by decide) rfl (fun ls521 hl522 => ?_)
        clear hl516
        refine lv_iconst (v := 0) hx hb dX7_best_53 (by decide) ?_
        refine lv_istore (lv' := [(5, .int 0), (4, .int (-1)), (3, .int 81), (0, .ref mo), (1, .int 5), (2, .int what)]) hx hb dX7_best_54 hl522 (by decide) rfl (fun ls523 hl524 => ?_)
        clear hl522
        refine lv_iconst (v := 0) hx hb dX7_best_56 (by decide) ?_
        refine lv_istore (lv' := [(6, .int 0), (5, .int 0), (4, .int (-1)), (3, .int 81), (0, .ref mo), (1, .int 5), (2, .int what)]) hx hb dX7_best_57 hl524 (by decide) rfl (fun ls525 hl526 => ?_)
        clear hl524
        have loop : ∀ (k i : Nat) (vf : Nat → Int32) (vb : Int32), i + k = 243 → (vf 0 = 0 ∧ vf 1 = 0 ∧ vf 2 = 0 ∧ vf 3 = 0 ∧ vf 4 = 0 ∧ vf 5 = 0 ∧ vf 6 = 1 ∧ vf 7 = 0 ∧ vf 8 = 3 ∧ vf 9 = 10 ∧ vf 10 = 0 ∧ ((i = 0 ∧ vb = -1) ∨ (0 < i ∧ vb = 0))) → ∀ (Hq : Heap) (Lq : List Loc) (lq : Array Slot), zz_S D A s [(mo, .inr (7, [.ref ms, .ref mi, .ref ma, .int 0, .ref mts, .ref mtz, .ref mtn, .ref mh, .ref mhn, .ref mhw, .ref mhz, .ref mhr, .ref mcl, .ref mtp, .int 0, .int 0, .int 0, .int 0, .int 0, .int 0, .int 0, .int 0, .int 0, .int 0, .int 0, .ref mna, .ref mpi, .ref mca, .ref mwa, .int 0, .ref mrd])), (ms, .inl (kms, 3047, .inl vf)), (mcl, .inl (kcl, 47, .inl c9657))] [(kms, .int), (kcl, .int)] Hq Lq → lv_has lq 9 [(6, .int (nI i)), (5, .int 0), (4, .int vb), (3, .int 81), (0, .ref mo), (1, .int 5), (2, .int what)] → W p l e (headSpec wsX7_best { frames := 3, cells := 0, slots := 0, locals := 64 }).room s m (List.toArray [.ref mo, .int 5, .int what]) below meth c Hq Lq 0 0 (MQ below (va_Qi (fun (r : Int32) (u : Unit) => r = sp_best 5 what) (fun u t => zz_B D A ((fun (u : Unit) => []) u) ((fun (u : Unit) => []) u) t) A) (List.toArray [.ref mo, .int 5, .int what]) s 0 0 A) (F0 m 59 lq []) := by
          intro k
          induction k with
          | zero =>
              intro i vf vb hik hinv H527 locs528 ls529 Z530 hl531
              rcases hinv.2.2.2.2.2.2.2.2.2.2.2 with ⟨h0, hv⟩ | ⟨h0, hv⟩
              · omega
              subst hv
              refine lv_iload hx hb dX7_best_59 (lv_at hl531 0 rfl) ?_
              refine lv_iconst (v := 3) hx hb dX7_best_61 (by decide) ?_
              refine lv_iload_n hx hb dX7_best_62 rfl (lv_at hl531 3 rfl) ?_
              refine lv_imul hx hb dX7_best_63 ?_
              refine zz_v (v := 243) (by decide) ?_
              refine lv_icmp_ge (tgt := 155) hx hb dX7_best_64 (by decide) (fun _ => ?_) (fun h => absurd (nI_le (a := 243) (b := i) (by omega) (by omega)) h)
              refine lv_iload_n hx hb dX7_best_155 rfl (lv_at hl531 6 rfl) ?_
              refine lv_if_ne (tgt := 164) hx hb dX7_best_156 (by decide) (fun b658 => ?_) (fun b658 => ?_)
              · refine lv_iload hx hb dX7_best_164 (lv_at hl531 1 rfl) ?_
                exact zz_iret X hr hlk Z530 () (by simp [sp_best, w653]) [] [] (by decide +kernel) rfl rfl dX7_best_166
              · refine lv_iload hx hb dX7_best_159 (lv_at hl531 2 rfl) ?_
                refine lv_goto (tgt := 166) hx hb dX7_best_161 (by decide) ?_
                exact zz_iret X hr hlk Z530 () (by simp [sp_best, w653]) [] [] (by decide +kernel) rfl rfl dX7_best_166
          | succ k ih =>
              intro i vf vb hik hinv H532 locs533 ls534 Z535 hl536
              rcases hinv.2.2.2.2.2.2.2.2.2.2.2 with ⟨h0, hv⟩ | ⟨h0, hv⟩
              · subst hv
                refine lv_iload hx hb dX7_best_59 (lv_at hl536 0 rfl) ?_
                refine lv_iconst (v := 3) hx hb dX7_best_61 (by decide) ?_
                refine lv_iload_n hx hb dX7_best_62 rfl (lv_at hl536 3 rfl) ?_
                refine lv_imul hx hb dX7_best_63 ?_
                refine zz_v (v := 243) (by decide) ?_
                refine lv_icmp_ge (tgt := 155) hx hb dX7_best_64 (by decide) (fun h => absurd h (nI_ge (a := i) (b := 243) (by omega) (by omega))) (fun _ => ?_)
                refine lv_iload_n hx hb dX7_best_67 rfl (lv_at hl536 3 rfl) ?_
                refine lv_istore (lv' := [(7, .int 81), (6, .int (nI i)), (5, .int 0), (4, .int (-1)), (3, .int 81), (0, .ref mo), (1, .int 5), (2, .int what)]) hx hb dX7_best_68 hl536 (by decide) rfl (fun ls537 hl538 => ?_)
                clear hl536
                have inner : ∀ (t : Nat), t ≤ 5 → ∀ (vf : Nat → Int32) (v2 v5 v6 v7 : Int32), vf 0 = 0 ∧ vf 1 = 0 ∧ vf 2 = v2 ∧ vf 3 = 0 ∧ vf 4 = 0 ∧ vf 5 = v5 ∧ vf 6 = v6 ∧ vf 7 = v7 ∧ vf 8 = 3 ∧ vf 9 = 10 ∧ vf 10 = 0 → ∀ (Hq : Heap) (Lq : List Loc) (lq : Array Slot), zz_S D A s [(mo, .inr (7, [.ref ms, .ref mi, .ref ma, .int 0, .ref mts, .ref mtz, .ref mtn, .ref mh, .ref mhn, .ref mhw, .ref mhz, .ref mhr, .ref mcl, .ref mtp, .int 0, .int 0, .int 0, .int 0, .int 0, .int 0, .int 0, .int 0, .int 0, .int 0, .int 0, .ref mna, .ref mpi, .ref mca, .ref mwa, .int 0, .ref mrd])), (ms, .inl (kms, 3047, .inl vf)), (mcl, .inl (kcl, 47, .inl c9657))] [(kms, .int), (kcl, .int)] Hq Lq → lv_has lq 9 [(7, .int (nI (zz_pw t))), (6, .int (nI i)), (5, .int 0), (4, .int (-1)), (3, .int 81), (0, .ref mo), (1, .int 5), (2, .int what)] → W p l e (headSpec wsX7_best { frames := 3, cells := 0, slots := 0, locals := 64 }).room s m (List.toArray [.ref mo, .int 5, .int what]) below meth c Hq Lq 0 0 (MQ below (va_Qi (fun (r : Int32) (u : Unit) => r = sp_best 5 what) (fun u t => zz_B D A ((fun (u : Unit) => []) u) ((fun (u : Unit) => []) u) t) A) (List.toArray [.ref mo, .int 5, .int what]) s 0 0 A) (F0 m 70 lq []) := by
                  intro t
                  induction t with
                  | zero =>
                      intro ht vf v2 v5 v6 v7 hin H539 locs540 ls541 Z542 hl543
                      have hl544 : lv_has ls541 9 [(7, .int 0), (6, .int (nI i)), (5, .int 0), (4, .int (-1)), (3, .int 81), (0, .ref mo), (1, .int 5), (2, .int what)] := hl543
                      clear hl543
                      refine lv_iload hx hb dX7_best_70 (lv_at hl544 0 rfl) ?_
                      refine lv_if_le (tgt := 117) hx hb dX7_best_72 (by decide) (fun _ => ?_) (fun h => absurd (by decide) h)
                      refine lv_aload_n hx hb dX7_best_117 rfl (lv_at hl544 5 rfl) ?_
                      refine zz_get X Z542 0 rfl rfl (fun w h => List.mem_cons_of_mem _ (List.mem_append_right _ h)) 0 rfl (zz_m 3 rfl) rfl dX7_best_118 ?_
                      refine lv_iconst (v := 4) hx hb dX7_best_121 (by decide) ?_
                      refine zz_ild X Z542 1 0 rfl rfl (zz_in 4 3047 rfl) dX7_best_122 ?_
                      refine zz_v (v := 0) hin.2.2.2.2.1 ?_
                      refine lv_istore (lv' := [(7, .int 0), (6, .int (nI i)), (5, .int 0), (4, .int (-1)), (3, .int 81), (0, .ref mo), (1, .int 5), (2, .int what)]) hx hb dX7_best_123 hl544 (by decide) rfl (fun ls545 hl546 => ?_)
                      clear hl544
                      refine lv_aload_n hx hb dX7_best_125 rfl (lv_at hl546 5 rfl) ?_
                      refine zz_cv (WC := [(mo, .inr (7, [.ref ms, .ref mi, .ref ma, .int 0, .ref mts, .ref mtz, .ref mtn, .ref mh, .ref mhn, .ref mhw, .ref mhz, .ref mhr, .ref mcl, .ref mtp, .int 0, .int 0, .int 0, .int 0, .int 0, .int 0, .int 0, .int 0, .int 0, .int 0, .int 0, .ref mna, .ref mpi, .ref mca, .ref mwa, .int 0, .ref mrd])), (ms, .inl (kms, 3047, .inl vf)), (mcl, .inl (kcl, 47, .inl c9657))]) (TC := [(kms, .int), (kcl, .int)]) (WR := []) (TR := []) (k := 0) (n := 0) Z542 [0, 1, 2] [] [0, 1] [] rfl rfl (by decide +kernel) (by decide +kernel) (by decide +kernel) rfl rfl (fun Zc => va_runV (As := []) (rest := []) X (c7_laysBack l D mo ms mi ma mts mtz mtn mh mhn mhw mhz mhr mcl mtp mna mpi mca mwa mrd 0 0 0 0 0 0 0 0 0 0 0 0 0 kms vf kcl c9657 H539.size) (cwV 0 hts gX7_best_X7_laysBack rfl rfl rfl ⟨rfl, zh_X7_laysBack⟩ ⟨Nat.le_of_ble_eq_true rfl, Nat.le_of_ble_eq_true rfl⟩) (zz_pV (ci := 7) Zc 0 rfl rfl) rfl rfl hl546.1 rfl (lv_room (Nat.le_of_ble_eq_true rfl)) dX7_best_126 ⟨Nat.le_of_ble_eq_true rfl, Nat.le_of_ble_eq_true rfl⟩) rfl rfl (fun u659 H547 locs548 hw660 Z549 => ?_)
                      clear Z542
                      obtain ⟨f9662, rfl⟩ : ∃ z, z = u659 := ⟨_, rfl⟩
                      try dsimp only at hw660 Z549
                      have Z550 : zz_S D A s [(mo, .inr (7, [.ref ms, .ref mi, .ref ma, .int 0, .ref mts, .ref mtz, .ref mtn, .ref mh, .ref mhn, .ref mhw, .ref mhz, .ref mhr, .ref mcl, .ref mtp, .int 0, .int 0, .int 0, .int 0, .int 0, .int 0, .int 0, .int 0, .int 0, .int 0, .int 0, .ref mna, .ref mpi, .ref mca, .ref mwa, .int 0, .ref mrd])), (ms, .inl (kms, 3047, .inl f9662)), (mcl, .inl (kcl, 47, .inl c9657))] [(kms, .int), (kcl, .int)] H547 locs548 := Z549
                      clear Z549
                      have p663 : f9662 0 = 0 := (hw660 0 (by decide)).trans ((hw655 0 (by decide)).trans af_0)
                      have p664 : f9662 1 = 0 := (hw660 1 (by decide)).trans ((hw655 1 (by decide)).trans af_1)
                      have p665 : f9662 2 = 0 := (hw660 2 (by decide)).trans ((hw655 2 (by decide)).trans af_2)
                      have p666 : f9662 3 = 0 := (hw660 3 (by decide)).trans ((hw655 3 (by decide)).trans af_3)
                      have p667 : f9662 4 = 0 := (hw660 4 (by decide)).trans ((hw655 4 (by decide)).trans af_4)
                      have p668 : f9662 5 = 0 := (hw660 5 (by decide)).trans ((hw655 5 (by decide)).trans af_5)
                      have p669 : f9662 6 = 1 := (hw660 6 (by decide)).trans ((hw655 6 (by decide)).trans af_6)
                      have p670 : f9662 7 = 0 := (hw660 7 (by decide)).trans ((hw655 7 (by decide)).trans af_7)
                      have p671 : f9662 8 = 3 := (hw660 8 (by decide)).trans ((hw655 8 (by decide)).trans af_8)
                      have p672 : f9662 9 = 10 := (hw660 9 (by decide)).trans ((hw655 9 (by decide)).trans af_9)
                      have p673 : f9662 10 = 0 := (hw660 10 (by decide)).trans ((hw655 10 (by decide)).trans af_10)
                      refine lv_iload hx hb dX7_best_129 (lv_at hl546 3 rfl) ?_
                      refine lv_if_lt (tgt := 141) hx hb dX7_best_131 (by decide) (fun _ => ?_) (fun h => absurd (by decide) h)
                      refine lv_iload hx hb dX7_best_141 (lv_at hl546 1 rfl) ?_
                      refine lv_istore (lv' := [(4, .int (nI i)), (7, .int 0), (6, .int (nI i)), (5, .int 0), (3, .int 81), (0, .ref mo), (1, .int 5), (2, .int what)]) hx hb dX7_best_143 hl546 (by decide) rfl (fun ls551 hl552 => ?_)
                      clear hl546
                      refine lv_iload hx hb dX7_best_145 (lv_at hl552 1 rfl) ?_
                      refine lv_istore (lv' := [(5, .int 0), (4, .int (nI i)), (7, .int 0), (6, .int (nI i)), (3, .int 81), (0, .ref mo), (1, .int 5), (2, .int what)]) hx hb dX7_best_147 hl552 (by decide) rfl (fun ls553 hl554 => ?_)
                      clear hl552
                      refine lv_iinc (v := nI (i + 1)) (lv' := [(6, .int (nI (i + 1))), (5, .int 0), (4, .int (nI i)), (7, .int 0), (3, .int 81), (0, .ref mo), (1, .int 5), (2, .int what)]) hx hb dX7_best_149 hl554 (k := 3) rfl (nI_1 i) (by decide) rfl (fun ls555 hl556 => ?_)
                      clear hl554
                      refine lv_goto (tgt := 59) hx hb dX7_best_152 (by decide) ?_
                      exact ih (i + 1) f9662 (nI i) (by omega) ⟨p663, p664, p665, p666, p667, p668, p669, p670, p671, p672, p673, (Or.inr ⟨by omega, by rw [h0]; rfl⟩)⟩ _ _ _ Z550 (lv_sub hl556 [0, 1, 2, 4, 5, 6, 7] rfl)
                  | succ t iht =>
                      intro ht vf v2 v5 v6 v7 hin H557 locs558 ls559 Z560 hl561
                      have hl562 : lv_has ls559 9 [(7, .int (nI (zz_pw (t + 1)))), (6, .int (nI i)), (5, .int 0), (4, .int (-1)), (3, .int 81), (0, .ref mo), (1, .int 5), (2, .int what)] := hl561
                      clear hl561
                      refine lv_iload hx hb dX7_best_70 (lv_at hl562 0 rfl) ?_
                      refine lv_if_le (tgt := 117) hx hb dX7_best_72 (by decide) (fun h => absurd h (nI_nle (zz_pwP t (by omega)).1 (zz_pwP t (by omega)).2)) (fun _ => ?_)
                      refine lv_iload hx hb dX7_best_75 (lv_at hl562 1 rfl) ?_
                      refine lv_iload hx hb dX7_best_77 (lv_at hl562 0 rfl) ?_
                      refine lv_idiv hx hb dX7_best_79 (nI_ne0 (zz_pwP t (by omega)).1 (zz_pwP t (by omega)).2) ?_
                      refine lv_iconst (v := 3) hx hb dX7_best_80 (by decide) ?_
                      refine lv_irem hx hb dX7_best_81 (by decide) ?_
                      refine lv_topi (fun y674 ey675 => ?_)
                      refine lv_istore (lv' := [(8, .int y674), (7, .int (nI (zz_pw (t + 1)))), (6, .int (nI i)), (5, .int 0), (4, .int (-1)), (3, .int 81), (0, .ref mo), (1, .int 5), (2, .int what)]) hx hb dX7_best_82 hl562 (by decide) rfl (fun ls563 hl564 => ?_)
                      clear hl562
                      refine lv_aload_n hx hb dX7_best_84 rfl (lv_at hl564 6 rfl) ?_
                      refine lv_iload hx hb dX7_best_85 (lv_at hl564 0 rfl) ?_
                      refine lv_if_ne (tgt := 94) hx hb dX7_best_87 (by decide) (fun b676 => ?_) (fun b676 => ?_)
                      · refine lv_iload hx hb dX7_best_94 (lv_at hl564 0 rfl) ?_
                        refine lv_iconst (v := 1) hx hb dX7_best_96 (by decide) ?_
                        refine lv_icmp_ne (tgt := 104) hx hb dX7_best_97 (by decide) (fun b677 => ?_) (fun b677 => ?_)
                        · refine lv_iconst (v := 1) hx hb dX7_best_104 (by decide) ?_
                          refine zz_cv (WC := [(mo, .inr (7, [.ref ms, .ref mi, .ref ma, .int 0, .ref mts, .ref mtz, .ref mtn, .ref mh, .ref mhn, .ref mhw, .ref mhz, .ref mhr, .ref mcl, .ref mtp, .int 0, .int 0, .int 0, .int 0, .int 0, .int 0, .int 0, .int 0, .int 0, .int 0, .int 0, .ref mna, .ref mpi, .ref mca, .ref mwa, .int 0, .ref mrd])), (ms, .inl (kms, 3047, .inl vf))]) (TC := [(kms, .int)]) (WR := [(mcl, .inl (kcl, 47, .inl c9657))]) (TR := [(kcl, .int)]) (k := 0) (n := 0) Z560 [0, 1] [2] [0] [1] rfl rfl (by decide +kernel) (by decide +kernel) (by decide +kernel) rfl rfl (fun Zc => va_runV (As := [.int 1]) (rest := []) X (c7_goesOnBy l D mo ms mi ma mts mtz mtn mh mhn mhw mhz mhr mcl mtp mna mpi mca mwa mrd 0 0 0 0 0 0 0 0 0 0 0 0 0 kms vf 0 v2 0 0 v5 v6 v7 3 10 0 1 hin.1 hin.2.1 hin.2.2.1 hin.2.2.2.1 hin.2.2.2.2.1 hin.2.2.2.2.2.1 hin.2.2.2.2.2.2.1 hin.2.2.2.2.2.2.2.1 hin.2.2.2.2.2.2.2.2.1 hin.2.2.2.2.2.2.2.2.2.1 hin.2.2.2.2.2.2.2.2.2.2 H557.size) (cwV 1 hts gX7_best_X7_goesOnBy rfl rfl rfl ⟨rfl, zh_X7_goesOnBy⟩ ⟨Nat.le_of_ble_eq_true rfl, Nat.le_of_ble_eq_true rfl⟩) (zz_pV (ci := 7) Zc 0 rfl rfl) rfl rfl hl564.1 rfl (lv_room (Nat.le_of_ble_eq_true rfl)) dX7_best_105 ⟨Nat.le_of_ble_eq_true rfl, Nat.le_of_ble_eq_true rfl⟩) rfl rfl (fun u678 H565 locs566 hw679 Z567 => ?_)
                          clear Z560
                          obtain ⟨f9681, F9682, T9683, Z9684⟩ := u678
                          try dsimp only at hw679 Z567
                          obtain ⟨⟨p685, p686, p687, p688, p689, p690, p691, p692, p693, p694, p695⟩, hx696⟩ := hw679
                          obtain ⟨rfl, rfl, rfl⟩ := hx696
                          have Z568 : zz_S D A s [(mcl, .inl (kcl, 47, .inl c9657)), (mo, .inr (7, [.ref ms, .ref mi, .ref ma, .int 0, .ref mts, .ref mtz, .ref mtn, .ref mh, .ref mhn, .ref mhw, .ref mhz, .ref mhr, .ref mcl, .ref mtp, .int 0, .int 0, .int 0, .int 0, .int 0, .int 0, .int 0, .int 0, .int 0, .int 0, .int 0, .ref mna, .ref mpi, .ref mca, .ref mwa, .int 0, .ref mrd])), (ms, .inl (kms, 3047, .inl f9681))] [(kcl, .int), (kms, .int)] H565 locs566 := Z567
                          clear Z567
                          refine lv_iload hx hb dX7_best_108 (lv_at hl564 1 rfl) ?_
                          refine lv_iconst (v := 3) hx hb dX7_best_110 (by decide) ?_
                          refine lv_idiv hx hb dX7_best_111 (by decide) ?_
                          refine zz_v (v := nI (zz_pw t)) (zz_pw3 t (by omega)) ?_
                          refine lv_istore (lv' := [(7, .int (nI (zz_pw t))), (8, .int y674), (6, .int (nI i)), (5, .int 0), (4, .int (-1)), (3, .int 81), (0, .ref mo), (1, .int 5), (2, .int what)]) hx hb dX7_best_112 hl564 (by decide) rfl (fun ls569 hl570 => ?_)
                          clear hl564
                          refine lv_goto (tgt := 70) hx hb dX7_best_114 (by decide) ?_
                          exact iht (by omega) f9681 (v2 + 1) (zz_bT v5 v6 10) (zz_bZ v6 10) (zz_mF v7 1 v6 3 10) ⟨p685, p686, p687, p688, p689, p690, p691, p692, p693, p694, p695⟩ _ _ _ Z568 (lv_sub hl570 [0, 2, 3, 4, 5, 6, 7, 8] rfl)
                        · refine lv_iconst (v := (-1)) hx hb dX7_best_100 (by decide) ?_
                          refine lv_goto (tgt := 105) hx hb dX7_best_101 (by decide) ?_
                          refine zz_cv (WC := [(mo, .inr (7, [.ref ms, .ref mi, .ref ma, .int 0, .ref mts, .ref mtz, .ref mtn, .ref mh, .ref mhn, .ref mhw, .ref mhz, .ref mhr, .ref mcl, .ref mtp, .int 0, .int 0, .int 0, .int 0, .int 0, .int 0, .int 0, .int 0, .int 0, .int 0, .int 0, .ref mna, .ref mpi, .ref mca, .ref mwa, .int 0, .ref mrd])), (ms, .inl (kms, 3047, .inl vf))]) (TC := [(kms, .int)]) (WR := [(mcl, .inl (kcl, 47, .inl c9657))]) (TR := [(kcl, .int)]) (k := 0) (n := 0) Z560 [0, 1] [2] [0] [1] rfl rfl (by decide +kernel) (by decide +kernel) (by decide +kernel) rfl rfl (fun Zc => va_runV (As := [.int (-1)]) (rest := []) X (c7_goesOnBy l D mo ms mi ma mts mtz mtn mh mhn mhw mhz mhr mcl mtp mna mpi mca mwa mrd 0 0 0 0 0 0 0 0 0 0 0 0 0 kms vf 0 v2 0 0 v5 v6 v7 3 10 0 (-1) hin.1 hin.2.1 hin.2.2.1 hin.2.2.2.1 hin.2.2.2.2.1 hin.2.2.2.2.2.1 hin.2.2.2.2.2.2.1 hin.2.2.2.2.2.2.2.1 hin.2.2.2.2.2.2.2.2.1 hin.2.2.2.2.2.2.2.2.2.1 hin.2.2.2.2.2.2.2.2.2.2 H557.size) (cwV 1 hts gX7_best_X7_goesOnBy rfl rfl rfl ⟨rfl, zh_X7_goesOnBy⟩ ⟨Nat.le_of_ble_eq_true rfl, Nat.le_of_ble_eq_true rfl⟩) (zz_pV (ci := 7) Zc 0 rfl rfl) rfl rfl hl564.1 rfl (lv_room (Nat.le_of_ble_eq_true rfl)) dX7_best_105 ⟨Nat.le_of_ble_eq_true rfl, Nat.le_of_ble_eq_true rfl⟩) rfl rfl (fun u697 H571 locs572 hw698 Z573 => ?_)
                          clear Z560
                          obtain ⟨f9700, F9701, T9702, Z9703⟩ := u697
                          try dsimp only at hw698 Z573
                          obtain ⟨⟨p704, p705, p706, p707, p708, p709, p710, p711, p712, p713, p714⟩, hx715⟩ := hw698
                          obtain ⟨rfl, rfl, rfl⟩ := hx715
                          have Z574 : zz_S D A s [(mcl, .inl (kcl, 47, .inl c9657)), (mo, .inr (7, [.ref ms, .ref mi, .ref ma, .int 0, .ref mts, .ref mtz, .ref mtn, .ref mh, .ref mhn, .ref mhw, .ref mhz, .ref mhr, .ref mcl, .ref mtp, .int 0, .int 0, .int 0, .int 0, .int 0, .int 0, .int 0, .int 0, .int 0, .int 0, .int 0, .ref mna, .ref mpi, .ref mca, .ref mwa, .int 0, .ref mrd])), (ms, .inl (kms, 3047, .inl f9700))] [(kcl, .int), (kms, .int)] H571 locs572 := Z573
                          clear Z573
                          refine lv_iload hx hb dX7_best_108 (lv_at hl564 1 rfl) ?_
                          refine lv_iconst (v := 3) hx hb dX7_best_110 (by decide) ?_
                          refine lv_idiv hx hb dX7_best_111 (by decide) ?_
                          refine zz_v (v := nI (zz_pw t)) (zz_pw3 t (by omega)) ?_
                          refine lv_istore (lv' := [(7, .int (nI (zz_pw t))), (8, .int y674), (6, .int (nI i)), (5, .int 0), (4, .int (-1)), (3, .int 81), (0, .ref mo), (1, .int 5), (2, .int what)]) hx hb dX7_best_112 hl564 (by decide) rfl (fun ls575 hl576 => ?_)
                          clear hl564
                          refine lv_goto (tgt := 70) hx hb dX7_best_114 (by decide) ?_
                          exact iht (by omega) f9700 (v2 + 1) (zz_bT v5 v6 10) (zz_bZ v6 10) (zz_mF v7 (-1) v6 3 10) ⟨p704, p705, p706, p707, p708, p709, p710, p711, p712, p713, p714⟩ _ _ _ Z574 (lv_sub hl576 [0, 2, 3, 4, 5, 6, 7, 8] rfl)
                      · refine lv_iconst (v := 0) hx hb dX7_best_90 (by decide) ?_
                        refine lv_goto (tgt := 105) hx hb dX7_best_91 (by decide) ?_
                        refine zz_cv (WC := [(mo, .inr (7, [.ref ms, .ref mi, .ref ma, .int 0, .ref mts, .ref mtz, .ref mtn, .ref mh, .ref mhn, .ref mhw, .ref mhz, .ref mhr, .ref mcl, .ref mtp, .int 0, .int 0, .int 0, .int 0, .int 0, .int 0, .int 0, .int 0, .int 0, .int 0, .int 0, .ref mna, .ref mpi, .ref mca, .ref mwa, .int 0, .ref mrd])), (ms, .inl (kms, 3047, .inl vf))]) (TC := [(kms, .int)]) (WR := [(mcl, .inl (kcl, 47, .inl c9657))]) (TR := [(kcl, .int)]) (k := 0) (n := 0) Z560 [0, 1] [2] [0] [1] rfl rfl (by decide +kernel) (by decide +kernel) (by decide +kernel) rfl rfl (fun Zc => va_runV (As := [.int 0]) (rest := []) X (c7_goesOnBy l D mo ms mi ma mts mtz mtn mh mhn mhw mhz mhr mcl mtp mna mpi mca mwa mrd 0 0 0 0 0 0 0 0 0 0 0 0 0 kms vf 0 v2 0 0 v5 v6 v7 3 10 0 0 hin.1 hin.2.1 hin.2.2.1 hin.2.2.2.1 hin.2.2.2.2.1 hin.2.2.2.2.2.1 hin.2.2.2.2.2.2.1 hin.2.2.2.2.2.2.2.1 hin.2.2.2.2.2.2.2.2.1 hin.2.2.2.2.2.2.2.2.2.1 hin.2.2.2.2.2.2.2.2.2.2 H557.size) (cwV 1 hts gX7_best_X7_goesOnBy rfl rfl rfl ⟨rfl, zh_X7_goesOnBy⟩ ⟨Nat.le_of_ble_eq_true rfl, Nat.le_of_ble_eq_true rfl⟩) (zz_pV (ci := 7) Zc 0 rfl rfl) rfl rfl hl564.1 rfl (lv_room (Nat.le_of_ble_eq_true rfl)) dX7_best_105 ⟨Nat.le_of_ble_eq_true rfl, Nat.le_of_ble_eq_true rfl⟩) rfl rfl (fun u716 H577 locs578 hw717 Z579 => ?_)
                        clear Z560
                        obtain ⟨f9719, F9720, T9721, Z9722⟩ := u716
                        try dsimp only at hw717 Z579
                        obtain ⟨⟨p723, p724, p725, p726, p727, p728, p729, p730, p731, p732, p733⟩, hx734⟩ := hw717
                        obtain ⟨rfl, rfl, rfl⟩ := hx734
                        have Z580 : zz_S D A s [(mcl, .inl (kcl, 47, .inl c9657)), (mo, .inr (7, [.ref ms, .ref mi, .ref ma, .int 0, .ref mts, .ref mtz, .ref mtn, .ref mh, .ref mhn, .ref mhw, .ref mhz, .ref mhr, .ref mcl, .ref mtp, .int 0, .int 0, .int 0, .int 0, .int 0, .int 0, .int 0, .int 0, .int 0, .int 0, .int 0, .ref mna, .ref mpi, .ref mca, .ref mwa, .int 0, .ref mrd])), (ms, .inl (kms, 3047, .inl f9719))] [(kcl, .int), (kms, .int)] H577 locs578 := Z579
                        clear Z579
                        refine lv_iload hx hb dX7_best_108 (lv_at hl564 1 rfl) ?_
                        refine lv_iconst (v := 3) hx hb dX7_best_110 (by decide) ?_
                        refine lv_idiv hx hb dX7_best_111 (by decide) ?_
                        refine zz_v (v := nI (zz_pw t)) (zz_pw3 t (by omega)) ?_
                        refine lv_istore (lv' := [(7, .int (nI (zz_pw t))), (8, .int y674), (6, .int (nI i)), (5, .int 0), (4, .int (-1)), (3, .int 81), (0, .ref mo), (1, .int 5), (2, .int what)]) hx hb dX7_best_112 hl564 (by decide) rfl (fun ls581 hl582 => ?_)
                        clear hl564
                        refine lv_goto (tgt := 70) hx hb dX7_best_114 (by decide) ?_
                        exact iht (by omega) f9719 (v2 + 1) (zz_bT v5 v6 10) (zz_bZ v6 10) (zz_mF v7 0 v6 3 10) ⟨p723, p724, p725, p726, p727, p728, p729, p730, p731, p732, p733⟩ _ _ _ Z580 (lv_sub hl582 [0, 2, 3, 4, 5, 6, 7, 8] rfl)
                exact inner 5 (by decide) vf 0 0 1 0 ⟨hinv.1, hinv.2.1, hinv.2.2.1, hinv.2.2.2.1, hinv.2.2.2.2.1, hinv.2.2.2.2.2.1, hinv.2.2.2.2.2.2.1, hinv.2.2.2.2.2.2.2.1, hinv.2.2.2.2.2.2.2.2.1, hinv.2.2.2.2.2.2.2.2.2.1, hinv.2.2.2.2.2.2.2.2.2.2.1⟩ _ _ _ Z535 hl538
              · subst hv
                refine lv_iload hx hb dX7_best_59 (lv_at hl536 0 rfl) ?_
                refine lv_iconst (v := 3) hx hb dX7_best_61 (by decide) ?_
                refine lv_iload_n hx hb dX7_best_62 rfl (lv_at hl536 3 rfl) ?_
                refine lv_imul hx hb dX7_best_63 ?_
                refine zz_v (v := 243) (by decide) ?_
                refine lv_icmp_ge (tgt := 155) hx hb dX7_best_64 (by decide) (fun h => absurd h (nI_ge (a := i) (b := 243) (by omega) (by omega))) (fun _ => ?_)
                refine lv_iload_n hx hb dX7_best_67 rfl (lv_at hl536 3 rfl) ?_
                refine lv_istore (lv' := [(7, .int 81), (6, .int (nI i)), (5, .int 0), (4, .int 0), (3, .int 81), (0, .ref mo), (1, .int 5), (2, .int what)]) hx hb dX7_best_68 hl536 (by decide) rfl (fun ls583 hl584 => ?_)
                clear hl536
                have inner : ∀ (t : Nat), t ≤ 5 → ∀ (vf : Nat → Int32) (v2 v5 v6 v7 : Int32), vf 0 = 0 ∧ vf 1 = 0 ∧ vf 2 = v2 ∧ vf 3 = 0 ∧ vf 4 = 0 ∧ vf 5 = v5 ∧ vf 6 = v6 ∧ vf 7 = v7 ∧ vf 8 = 3 ∧ vf 9 = 10 ∧ vf 10 = 0 → ∀ (Hq : Heap) (Lq : List Loc) (lq : Array Slot), zz_S D A s [(mo, .inr (7, [.ref ms, .ref mi, .ref ma, .int 0, .ref mts, .ref mtz, .ref mtn, .ref mh, .ref mhn, .ref mhw, .ref mhz, .ref mhr, .ref mcl, .ref mtp, .int 0, .int 0, .int 0, .int 0, .int 0, .int 0, .int 0, .int 0, .int 0, .int 0, .int 0, .ref mna, .ref mpi, .ref mca, .ref mwa, .int 0, .ref mrd])), (ms, .inl (kms, 3047, .inl vf)), (mcl, .inl (kcl, 47, .inl c9657))] [(kms, .int), (kcl, .int)] Hq Lq → lv_has lq 9 [(7, .int (nI (zz_pw t))), (6, .int (nI i)), (5, .int 0), (4, .int 0), (3, .int 81), (0, .ref mo), (1, .int 5), (2, .int what)] → W p l e (headSpec wsX7_best { frames := 3, cells := 0, slots := 0, locals := 64 }).room s m (List.toArray [.ref mo, .int 5, .int what]) below meth c Hq Lq 0 0 (MQ below (va_Qi (fun (r : Int32) (u : Unit) => r = sp_best 5 what) (fun u t => zz_B D A ((fun (u : Unit) => []) u) ((fun (u : Unit) => []) u) t) A) (List.toArray [.ref mo, .int 5, .int what]) s 0 0 A) (F0 m 70 lq []) := by
                  intro t
                  induction t with
                  | zero =>
                      intro ht vf v2 v5 v6 v7 hin H585 locs586 ls587 Z588 hl589
                      have hl590 : lv_has ls587 9 [(7, .int 0), (6, .int (nI i)), (5, .int 0), (4, .int 0), (3, .int 81), (0, .ref mo), (1, .int 5), (2, .int what)] := hl589
                      clear hl589
                      refine lv_iload hx hb dX7_best_70 (lv_at hl590 0 rfl) ?_
                      refine lv_if_le (tgt := 117) hx hb dX7_best_72 (by decide) (fun _ => ?_) (fun h => absurd (by decide) h)
                      refine lv_aload_n hx hb dX7_best_117 rfl (lv_at hl590 5 rfl) ?_
                      refine zz_get X Z588 0 rfl rfl (fun w h => List.mem_cons_of_mem _ (List.mem_append_right _ h)) 0 rfl (zz_m 3 rfl) rfl dX7_best_118 ?_
                      refine lv_iconst (v := 4) hx hb dX7_best_121 (by decide) ?_
                      refine zz_ild X Z588 1 0 rfl rfl (zz_in 4 3047 rfl) dX7_best_122 ?_
                      refine zz_v (v := 0) hin.2.2.2.2.1 ?_
                      refine lv_istore (lv' := [(7, .int 0), (6, .int (nI i)), (5, .int 0), (4, .int 0), (3, .int 81), (0, .ref mo), (1, .int 5), (2, .int what)]) hx hb dX7_best_123 hl590 (by decide) rfl (fun ls591 hl592 => ?_)
                      clear hl590
                      refine lv_aload_n hx hb dX7_best_125 rfl (lv_at hl592 5 rfl) ?_
                      refine zz_cv (WC := [(mo, .inr (7, [.ref ms, .ref mi, .ref ma, .int 0, .ref mts, .ref mtz, .ref mtn, .ref mh, .ref mhn, .ref mhw, .ref mhz, .ref mhr, .ref mcl, .ref mtp, .int 0, .int 0, .int 0, .int 0, .int 0, .int 0, .int 0, .int 0, .int 0, .int 0, .int 0, .ref mna, .ref mpi, .ref mca, .ref mwa, .int 0, .ref mrd])), (ms, .inl (kms, 3047, .inl vf)), (mcl, .inl (kcl, 47, .inl c9657))]) (TC := [(kms, .int), (kcl, .int)]) (WR := []) (TR := []) (k := 0) (n := 0) Z588 [0, 1, 2] [] [0, 1] [] rfl rfl (by decide +kernel) (by decide +kernel) (by decide +kernel) rfl rfl (fun Zc => va_runV (As := []) (rest := []) X (c7_laysBack l D mo ms mi ma mts mtz mtn mh mhn mhw mhz mhr mcl mtp mna mpi mca mwa mrd 0 0 0 0 0 0 0 0 0 0 0 0 0 kms vf kcl c9657 H585.size) (cwV 0 hts gX7_best_X7_laysBack rfl rfl rfl ⟨rfl, zh_X7_laysBack⟩ ⟨Nat.le_of_ble_eq_true rfl, Nat.le_of_ble_eq_true rfl⟩) (zz_pV (ci := 7) Zc 0 rfl rfl) rfl rfl hl592.1 rfl (lv_room (Nat.le_of_ble_eq_true rfl)) dX7_best_126 ⟨Nat.le_of_ble_eq_true rfl, Nat.le_of_ble_eq_true rfl⟩) rfl rfl (fun u735 H593 locs594 hw736 Z595 => ?_)
                      clear Z588
                      obtain ⟨f9738, rfl⟩ : ∃ z, z = u735 := ⟨_, rfl⟩
                      try dsimp only at hw736 Z595
                      have Z596 : zz_S D A s [(mo, .inr (7, [.ref ms, .ref mi, .ref ma, .int 0, .ref mts, .ref mtz, .ref mtn, .ref mh, .ref mhn, .ref mhw, .ref mhz, .ref mhr, .ref mcl, .ref mtp, .int 0, .int 0, .int 0, .int 0, .int 0, .int 0, .int 0, .int 0, .int 0, .int 0, .int 0, .ref mna, .ref mpi, .ref mca, .ref mwa, .int 0, .ref mrd])), (ms, .inl (kms, 3047, .inl f9738)), (mcl, .inl (kcl, 47, .inl c9657))] [(kms, .int), (kcl, .int)] H593 locs594 := Z595
                      clear Z595
                      have p739 : f9738 0 = 0 := (hw736 0 (by decide)).trans ((hw655 0 (by decide)).trans af_0)
                      have p740 : f9738 1 = 0 := (hw736 1 (by decide)).trans ((hw655 1 (by decide)).trans af_1)
                      have p741 : f9738 2 = 0 := (hw736 2 (by decide)).trans ((hw655 2 (by decide)).trans af_2)
                      have p742 : f9738 3 = 0 := (hw736 3 (by decide)).trans ((hw655 3 (by decide)).trans af_3)
                      have p743 : f9738 4 = 0 := (hw736 4 (by decide)).trans ((hw655 4 (by decide)).trans af_4)
                      have p744 : f9738 5 = 0 := (hw736 5 (by decide)).trans ((hw655 5 (by decide)).trans af_5)
                      have p745 : f9738 6 = 1 := (hw736 6 (by decide)).trans ((hw655 6 (by decide)).trans af_6)
                      have p746 : f9738 7 = 0 := (hw736 7 (by decide)).trans ((hw655 7 (by decide)).trans af_7)
                      have p747 : f9738 8 = 3 := (hw736 8 (by decide)).trans ((hw655 8 (by decide)).trans af_8)
                      have p748 : f9738 9 = 10 := (hw736 9 (by decide)).trans ((hw655 9 (by decide)).trans af_9)
                      have p749 : f9738 10 = 0 := (hw736 10 (by decide)).trans ((hw655 10 (by decide)).trans af_10)
                      refine lv_iload hx hb dX7_best_129 (lv_at hl592 3 rfl) ?_
                      refine lv_if_lt (tgt := 141) hx hb dX7_best_131 (by decide) (fun h => absurd h (by decide)) (fun _ => ?_)
                      refine lv_iload hx hb dX7_best_134 (lv_at hl592 0 rfl) ?_
                      refine lv_iload hx hb dX7_best_136 (lv_at hl592 2 rfl) ?_
                      refine lv_icmp_ge (tgt := 149) hx hb dX7_best_138 (by decide) (fun _ => ?_) (fun h => absurd (by decide) h)
                      refine lv_iinc (v := nI (i + 1)) (lv' := [(6, .int (nI (i + 1))), (7, .int 0), (5, .int 0), (4, .int 0), (3, .int 81), (0, .ref mo), (1, .int 5), (2, .int what)]) hx hb dX7_best_149 hl592 (k := 1) rfl (nI_1 i) (by decide) rfl (fun ls597 hl598 => ?_)
                      clear hl592
                      refine lv_goto (tgt := 59) hx hb dX7_best_152 (by decide) ?_
                      exact ih (i + 1) f9738 0 (by omega) ⟨p739, p740, p741, p742, p743, p744, p745, p746, p747, p748, p749, (Or.inr ⟨by omega, rfl⟩)⟩ _ _ _ Z596 (lv_sub hl598 [0, 2, 3, 4, 5, 6, 7] rfl)
                  | succ t iht =>
                      intro ht vf v2 v5 v6 v7 hin H599 locs600 ls601 Z602 hl603
                      have hl604 : lv_has ls601 9 [(7, .int (nI (zz_pw (t + 1)))), (6, .int (nI i)), (5, .int 0), (4, .int 0), (3, .int 81), (0, .ref mo), (1, .int 5), (2, .int what)] := hl603
                      clear hl603
                      refine lv_iload hx hb dX7_best_70 (lv_at hl604 0 rfl) ?_
                      refine lv_if_le (tgt := 117) hx hb dX7_best_72 (by decide) (fun h => absurd h (nI_nle (zz_pwP t (by omega)).1 (zz_pwP t (by omega)).2)) (fun _ => ?_)
                      refine lv_iload hx hb dX7_best_75 (lv_at hl604 1 rfl) ?_
                      refine lv_iload hx hb dX7_best_77 (lv_at hl604 0 rfl) ?_
                      refine lv_idiv hx hb dX7_best_79 (nI_ne0 (zz_pwP t (by omega)).1 (zz_pwP t (by omega)).2) ?_
                      refine lv_iconst (v := 3) hx hb dX7_best_80 (by decide) ?_
                      refine lv_irem hx hb dX7_best_81 (by decide) ?_
                      refine lv_topi (fun y750 ey751 => ?_)
                      refine lv_istore (lv' := [(8, .int y750), (7, .int (nI (zz_pw (t + 1)))), (6, .int (nI i)), (5, .int 0), (4, .int 0), (3, .int 81), (0, .ref mo), (1, .int 5), (2, .int what)]) hx hb dX7_best_82 hl604 (by decide) rfl (fun ls605 hl606 => ?_)
                      clear hl604
                      refine lv_aload_n hx hb dX7_best_84 rfl (lv_at hl606 6 rfl) ?_
                      refine lv_iload hx hb dX7_best_85 (lv_at hl606 0 rfl) ?_
                      refine lv_if_ne (tgt := 94) hx hb dX7_best_87 (by decide) (fun b752 => ?_) (fun b752 => ?_)
                      · refine lv_iload hx hb dX7_best_94 (lv_at hl606 0 rfl) ?_
                        refine lv_iconst (v := 1) hx hb dX7_best_96 (by decide) ?_
                        refine lv_icmp_ne (tgt := 104) hx hb dX7_best_97 (by decide) (fun b753 => ?_) (fun b753 => ?_)
                        · refine lv_iconst (v := 1) hx hb dX7_best_104 (by decide) ?_
                          refine zz_cv (WC := [(mo, .inr (7, [.ref ms, .ref mi, .ref ma, .int 0, .ref mts, .ref mtz, .ref mtn, .ref mh, .ref mhn, .ref mhw, .ref mhz, .ref mhr, .ref mcl, .ref mtp, .int 0, .int 0, .int 0, .int 0, .int 0, .int 0, .int 0, .int 0, .int 0, .int 0, .int 0, .ref mna, .ref mpi, .ref mca, .ref mwa, .int 0, .ref mrd])), (ms, .inl (kms, 3047, .inl vf))]) (TC := [(kms, .int)]) (WR := [(mcl, .inl (kcl, 47, .inl c9657))]) (TR := [(kcl, .int)]) (k := 0) (n := 0) Z602 [0, 1] [2] [0] [1] rfl rfl (by decide +kernel) (by decide +kernel) (by decide +kernel) rfl rfl (fun Zc => va_runV (As := [.int 1]) (rest := []) X (c7_goesOnBy l D mo ms mi ma mts mtz mtn mh mhn mhw mhz mhr mcl mtp mna mpi mca mwa mrd 0 0 0 0 0 0 0 0 0 0 0 0 0 kms vf 0 v2 0 0 v5 v6 v7 3 10 0 1 hin.1 hin.2.1 hin.2.2.1 hin.2.2.2.1 hin.2.2.2.2.1 hin.2.2.2.2.2.1 hin.2.2.2.2.2.2.1 hin.2.2.2.2.2.2.2.1 hin.2.2.2.2.2.2.2.2.1 hin.2.2.2.2.2.2.2.2.2.1 hin.2.2.2.2.2.2.2.2.2.2 H599.size) (cwV 1 hts gX7_best_X7_goesOnBy rfl rfl rfl ⟨rfl, zh_X7_goesOnBy⟩ ⟨Nat.le_of_ble_eq_true rfl, Nat.le_of_ble_eq_true rfl⟩) (zz_pV (ci := 7) Zc 0 rfl rfl) rfl rfl hl606.1 rfl (lv_room (Nat.le_of_ble_eq_true rfl)) dX7_best_105 ⟨Nat.le_of_ble_eq_true rfl, Nat.le_of_ble_eq_true rfl⟩) rfl rfl (fun u754 H607 locs608 hw755 Z609 => ?_)
                          clear Z602
                          obtain ⟨f9757, F9758, T9759, Z9760⟩ := u754
                          try dsimp only at hw755 Z609
                          obtain ⟨⟨p761, p762, p763, p764, p765, p766, p767, p768, p769, p770, p771⟩, hx772⟩ := hw755
                          obtain ⟨rfl, rfl, rfl⟩ := hx772
                          have Z610 : zz_S D A s [(mcl, .inl (kcl, 47, .inl c9657)), (mo, .inr (7, [.ref ms, .ref mi, .ref ma, .int 0, .ref mts, .ref mtz, .ref mtn, .ref mh, .ref mhn, .ref mhw, .ref mhz, .ref mhr, .ref mcl, .ref mtp, .int 0, .int 0, .int 0, .int 0, .int 0, .int 0, .int 0, .int 0, .int 0, .int 0, .int 0, .ref mna, .ref mpi, .ref mca, .ref mwa, .int 0, .ref mrd])), (ms, .inl (kms, 3047, .inl f9757))] [(kcl, .int), (kms, .int)] H607 locs608 := Z609
                          clear Z609
                          refine lv_iload hx hb dX7_best_108 (lv_at hl606 1 rfl) ?_
                          refine lv_iconst (v := 3) hx hb dX7_best_110 (by decide) ?_
                          refine lv_idiv hx hb dX7_best_111 (by decide) ?_
                          refine zz_v (v := nI (zz_pw t)) (zz_pw3 t (by omega)) ?_
                          refine lv_istore (lv' := [(7, .int (nI (zz_pw t))), (8, .int y750), (6, .int (nI i)), (5, .int 0), (4, .int 0), (3, .int 81), (0, .ref mo), (1, .int 5), (2, .int what)]) hx hb dX7_best_112 hl606 (by decide) rfl (fun ls611 hl612 => ?_)
                          clear hl606
                          refine lv_goto (tgt := 70) hx hb dX7_best_114 (by decide) ?_
                          exact iht (by omega) f9757 (v2 + 1) (zz_bT v5 v6 10) (zz_bZ v6 10) (zz_mF v7 1 v6 3 10) ⟨p761, p762, p763, p764, p765, p766, p767, p768, p769, p770, p771⟩ _ _ _ Z610 (lv_sub hl612 [0, 2, 3, 4, 5, 6, 7, 8] rfl)
                        · refine lv_iconst (v := (-1)) hx hb dX7_best_100 (by decide) ?_
                          refine lv_goto (tgt := 105) hx hb dX7_best_101 (by decide) ?_
                          refine zz_cv (WC := [(mo, .inr (7, [.ref ms, .ref mi, .ref ma, .int 0, .ref mts, .ref mtz, .ref mtn, .ref mh, .ref mhn, .ref mhw, .ref mhz, .ref mhr, .ref mcl, .ref mtp, .int 0, .int 0, .int 0, .int 0, .int 0, .int 0, .int 0, .int 0, .int 0, .int 0, .int 0, .ref mna, .ref mpi, .ref mca, .ref mwa, .int 0, .ref mrd])), (ms, .inl (kms, 3047, .inl vf))]) (TC := [(kms, .int)]) (WR := [(mcl, .inl (kcl, 47, .inl c9657))]) (TR := [(kcl, .int)]) (k := 0) (n := 0) Z602 [0, 1] [2] [0] [1] rfl rfl (by decide +kernel) (by decide +kernel) (by decide +kernel) rfl rfl (fun Zc => va_runV (As := [.int (-1)]) (rest := []) X (c7_goesOnBy l D mo ms mi ma mts mtz mtn mh mhn mhw mhz mhr mcl mtp mna mpi mca mwa mrd 0 0 0 0 0 0 0 0 0 0 0 0 0 kms vf 0 v2 0 0 v5 v6 v7 3 10 0 (-1) hin.1 hin.2.1 hin.2.2.1 hin.2.2.2.1 hin.2.2.2.2.1 hin.2.2.2.2.2.1 hin.2.2.2.2.2.2.1 hin.2.2.2.2.2.2.2.1 hin.2.2.2.2.2.2.2.2.1 hin.2.2.2.2.2.2.2.2.2.1 hin.2.2.2.2.2.2.2.2.2.2 H599.size) (cwV 1 hts gX7_best_X7_goesOnBy rfl rfl rfl ⟨rfl, zh_X7_goesOnBy⟩ ⟨Nat.le_of_ble_eq_true rfl, Nat.le_of_ble_eq_true rfl⟩) (zz_pV (ci := 7) Zc 0 rfl rfl) rfl rfl hl606.1 rfl (lv_room (Nat.le_of_ble_eq_true rfl)) dX7_best_105 ⟨Nat.le_of_ble_eq_true rfl, Nat.le_of_ble_eq_true rfl⟩) rfl rfl (fun u773 H613 locs614 hw774 Z615 => ?_)
                          clear Z602
                          obtain ⟨f9776, F9777, T9778, Z9779⟩ := u773
                          try dsimp only at hw774 Z615
                          obtain ⟨⟨p780, p781, p782, p783, p784, p785, p786, p787, p788, p789, p790⟩, hx791⟩ := hw774
                          obtain ⟨rfl, rfl, rfl⟩ := hx791
                          have Z616 : zz_S D A s [(mcl, .inl (kcl, 47, .inl c9657)), (mo, .inr (7, [.ref ms, .ref mi, .ref ma, .int 0, .ref mts, .ref mtz, .ref mtn, .ref mh, .ref mhn, .ref mhw, .ref mhz, .ref mhr, .ref mcl, .ref mtp, .int 0, .int 0, .int 0, .int 0, .int 0, .int 0, .int 0, .int 0, .int 0, .int 0, .int 0, .ref mna, .ref mpi, .ref mca, .ref mwa, .int 0, .ref mrd])), (ms, .inl (kms, 3047, .inl f9776))] [(kcl, .int), (kms, .int)] H613 locs614 := Z615
                          clear Z615
                          refine lv_iload hx hb dX7_best_108 (lv_at hl606 1 rfl) ?_
                          refine lv_iconst (v := 3) hx hb dX7_best_110 (by decide) ?_
                          refine lv_idiv hx hb dX7_best_111 (by decide) ?_
                          refine zz_v (v := nI (zz_pw t)) (zz_pw3 t (by omega)) ?_
                          refine lv_istore (lv' := [(7, .int (nI (zz_pw t))), (8, .int y750), (6, .int (nI i)), (5, .int 0), (4, .int 0), (3, .int 81), (0, .ref mo), (1, .int 5), (2, .int what)]) hx hb dX7_best_112 hl606 (by decide) rfl (fun ls617 hl618 => ?_)
                          clear hl606
                          refine lv_goto (tgt := 70) hx hb dX7_best_114 (by decide) ?_
                          exact iht (by omega) f9776 (v2 + 1) (zz_bT v5 v6 10) (zz_bZ v6 10) (zz_mF v7 (-1) v6 3 10) ⟨p780, p781, p782, p783, p784, p785, p786, p787, p788, p789, p790⟩ _ _ _ Z616 (lv_sub hl618 [0, 2, 3, 4, 5, 6, 7, 8] rfl)
                      · refine lv_iconst (v := 0) hx hb dX7_best_90 (by decide) ?_
                        refine lv_goto (tgt := 105) hx hb dX7_best_91 (by decide) ?_
                        refine zz_cv (WC := [(mo, .inr (7, [.ref ms, .ref mi, .ref ma, .int 0, .ref mts, .ref mtz, .ref mtn, .ref mh, .ref mhn, .ref mhw, .ref mhz, .ref mhr, .ref mcl, .ref mtp, .int 0, .int 0, .int 0, .int 0, .int 0, .int 0, .int 0, .int 0, .int 0, .int 0, .int 0, .ref mna, .ref mpi, .ref mca, .ref mwa, .int 0, .ref mrd])), (ms, .inl (kms, 3047, .inl vf))]) (TC := [(kms, .int)]) (WR := [(mcl, .inl (kcl, 47, .inl c9657))]) (TR := [(kcl, .int)]) (k := 0) (n := 0) Z602 [0, 1] [2] [0] [1] rfl rfl (by decide +kernel) (by decide +kernel) (by decide +kernel) rfl rfl (fun Zc => va_runV (As := [.int 0]) (rest := []) X (c7_goesOnBy l D mo ms mi ma mts mtz mtn mh mhn mhw mhz mhr mcl mtp mna mpi mca mwa mrd 0 0 0 0 0 0 0 0 0 0 0 0 0 kms vf 0 v2 0 0 v5 v6 v7 3 10 0 0 hin.1 hin.2.1 hin.2.2.1 hin.2.2.2.1 hin.2.2.2.2.1 hin.2.2.2.2.2.1 hin.2.2.2.2.2.2.1 hin.2.2.2.2.2.2.2.1 hin.2.2.2.2.2.2.2.2.1 hin.2.2.2.2.2.2.2.2.2.1 hin.2.2.2.2.2.2.2.2.2.2 H599.size) (cwV 1 hts gX7_best_X7_goesOnBy rfl rfl rfl ⟨rfl, zh_X7_goesOnBy⟩ ⟨Nat.le_of_ble_eq_true rfl, Nat.le_of_ble_eq_true rfl⟩) (zz_pV (ci := 7) Zc 0 rfl rfl) rfl rfl hl606.1 rfl (lv_room (Nat.le_of_ble_eq_true rfl)) dX7_best_105 ⟨Nat.le_of_ble_eq_true rfl, Nat.le_of_ble_eq_true rfl⟩) rfl rfl (fun u792 H619 locs620 hw793 Z621 => ?_)
                        clear Z602
                        obtain ⟨f9795, F9796, T9797, Z9798⟩ := u792
                        try dsimp only at hw793 Z621
                        obtain ⟨⟨p799, p800, p801, p802, p803, p804, p805, p806, p807, p808, p809⟩, hx810⟩ := hw793
                        obtain ⟨rfl, rfl, rfl⟩ := hx810
                        have Z622 : zz_S D A s [(mcl, .inl (kcl, 47, .inl c9657)), (mo, .inr (7, [.ref ms, .ref mi, .ref ma, .int 0, .ref mts, .ref mtz, .ref mtn, .ref mh, .ref mhn, .ref mhw, .ref mhz, .ref mhr, .ref mcl, .ref mtp, .int 0, .int 0, .int 0, .int 0, .int 0, .int 0, .int 0, .int 0, .int 0, .int 0, .int 0, .ref mna, .ref mpi, .ref mca, .ref mwa, .int 0, .ref mrd])), (ms, .inl (kms, 3047, .inl f9795))] [(kcl, .int), (kms, .int)] H619 locs620 := Z621
                        clear Z621
                        refine lv_iload hx hb dX7_best_108 (lv_at hl606 1 rfl) ?_
                        refine lv_iconst (v := 3) hx hb dX7_best_110 (by decide) ?_
                        refine lv_idiv hx hb dX7_best_111 (by decide) ?_
                        refine zz_v (v := nI (zz_pw t)) (zz_pw3 t (by omega)) ?_
                        refine lv_istore (lv' := [(7, .int (nI (zz_pw t))), (8, .int y750), (6, .int (nI i)), (5, .int 0), (4, .int 0), (3, .int 81), (0, .ref mo), (1, .int 5), (2, .int what)]) hx hb dX7_best_112 hl606 (by decide) rfl (fun ls623 hl624 => ?_)
                        clear hl606
                        refine lv_goto (tgt := 70) hx hb dX7_best_114 (by decide) ?_
                        exact iht (by omega) f9795 (v2 + 1) (zz_bT v5 v6 10) (zz_bZ v6 10) (zz_mF v7 0 v6 3 10) ⟨p799, p800, p801, p802, p803, p804, p805, p806, p807, p808, p809⟩ _ _ _ Z622 (lv_sub hl624 [0, 2, 3, 4, 5, 6, 7, 8] rfl)
                exact inner 5 (by decide) vf 0 0 1 0 ⟨hinv.1, hinv.2.1, hinv.2.2.1, hinv.2.2.2.1, hinv.2.2.2.2.1, hinv.2.2.2.2.2.1, hinv.2.2.2.2.2.2.1, hinv.2.2.2.2.2.2.2.1, hinv.2.2.2.2.2.2.2.2.1, hinv.2.2.2.2.2.2.2.2.2.1, hinv.2.2.2.2.2.2.2.2.2.2.1⟩ _ _ _ Z535 hl584
        exact loop 243 0 f (-1) (by omega) ⟨af_0, af_1, af_2, af_3, af_4, af_5, af_6, af_7, af_8, af_9, af_10, (Or.inl ⟨rfl, rfl⟩)⟩ _ _ _ Z520 hl526
      · refine zz_v (v := 0) (zz_wiF w653) ?_
        refine lv_if_ne (tgt := 25) hx hb dX7_best_19 (by decide) (fun h => absurd (by decide) h) (fun _ => ?_)
        refine lv_ldc (v := (-1000000001)) hx hb hown (hts _ (zz_m 2 rfl)) dX7_best_22 ?_
        exact zz_iret X hr hlk Z496 () (by simp [sp_best, w653]) [] [] (by decide +kernel) rfl rfl dX7_best_24
  · refine zz_v (v := 0) (zz_wiF w4) ?_
    refine lv_if_eq (tgt := 22) hx hb dX7_best_9 (by decide) (fun _ => ?_) (fun h => absurd (by decide) h)
    refine lv_ldc (v := (-1000000001)) hx hb hown (hts _ (zz_m 2 rfl)) dX7_best_22 ?_
    exact zz_iret X hr hlk Z4 () (by simp [sp_best, w4]) [] [] (by decide +kernel) rfl rfl dX7_best_24
