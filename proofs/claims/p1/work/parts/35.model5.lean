set_option maxHeartbeats 4000000 in
set_option maxRecDepth 100000 in
theorem c7_sheet (l : Launch) (D : va_G) (mo : Nat) (ms : Nat) (mi : Nat) (ma : Nat) (mts : Nat) (mtz : Nat) (mtn : Nat) (mh : Nat) (mhn : Nat) (mhw : Nat) (mhz : Nat) (mhr : Nat) (mcl : Nat) (mtp : Nat) (mna : Nat) (mpi : Nat) (mca : Nat) (mwa : Nat) (mrd : Nat) (k_mts : ClassId) (tsf : (Nat → Int32)) (k_mtz : ClassId) (tzf : (Nat → Int32)) (k_mtn : ClassId) (tnf : (Nat → Int32)) (sheet : Int32) (sort : Int32) (n : Int32) (atsf_0 : tsf 0 = (-1)) (atsf_1 : tsf 1 = (-1)) (atsf_2 : tsf 2 = (-1)) (atsf_3 : tsf 3 = (-1)) : zz_MI l yX7_sheet wsX7_sheet 2 45 0 0 D [.ref mo, .int sheet, .int sort, .int n] [(mo, .inr (7, [.ref ms, .ref mi, .ref ma, .int 0, .ref mts, .ref mtz, .ref mtn, .ref mh, .ref mhn, .ref mhw, .ref mhz, .ref mhr, .ref mcl, .ref mtp, .int 0, .int 0, .int 0, .int 0, .int 0, .int 0, .int 0, .int 0, .int 0, .int 0, .int 0, .ref mna, .ref mpi, .ref mca, .ref mwa, .int 0, .ref mrd])), (mts, .inl (k_mts, 4, .inl tsf)), (mtz, .inl (k_mtz, 4, .inl tzf)), (mtn, .inl (k_mtn, 96, .inl tnf))] [(k_mts, .int), (k_mtz, .int), (k_mtn, .int)] (fun (r : Int32) (u : Unit) => r = sp_sheet sheet sort n) (fun (u : Unit) => []) (fun (u : Unit) => []) := by
  intro sz
  refine Met.ofW (cc := cX7_sheet) (maxL := 5) (ret := (some .int)) (by decide) rfl ?_
  intro p e s m args below meth c s₁ B hml hv
  obtain ⟨rfl, hC⟩ := hv
  have hx := B.exec
  have hb := B.bytes
  have hr := B.returns
  have hts := atoms_spec (ws := wsX7_sheet) B.pre
  have hown : s.vm.findClass RX7 = some m.cls := findClass_of_methodNamed B.named
  have hlk := B.notSynchronized
  have X : CallFix p m c cX7_sheet 5 s _ wsX7_sheet RX7 := ⟨hx, hb, hml, hown, hts⟩
  have Z := zz_enter hC
  generalize va_A [(mo, .inr (7, [.ref ms, .ref mi, .ref ma, .int 0, .ref mts, .ref mtz, .ref mtn, .ref mh, .ref mhn, .ref mhw, .ref mhz, .ref mhr, .ref mcl, .ref mtp, .int 0, .int 0, .int 0, .int 0, .int 0, .int 0, .int 0, .int 0, .int 0, .int 0, .int 0, .ref mna, .ref mpi, .ref mca, .ref mwa, .int 0, .ref mrd])), (mts, .inl (k_mts, 4, .inl tsf)), (mtz, .inl (k_mtz, 4, .inl tzf)), (mtn, .inl (k_mtn, 96, .inl tnf))] sz = A at Z ⊢
  have hl := lv_entry ([.ref mo, .int sheet, .int sort, .int n]) (n := 5) (Nat.le_of_ble_eq_true rfl)
  rw [lg_entry_eq]
  generalize (lg_sl ([.ref mo, .int sheet, .int sort, .int n]) ++ List.replicate (5 - (lg_sl ([.ref mo, .int sheet, .int sort, .int n])).length) Slot.unset).toArray = ls at hl ⊢
  have hl : lv_has ls 5 [(0, .ref mo), (1, .int sheet), (2, .int sort), (3, .int n)] := hl
  refine lv_iload_n hx hb dX7_sheet_0 rfl (lv_at hl 1 rfl) ?_
  refine zz_ci (WC := []) (TC := []) (WR := [(mo, .inr (7, [.ref ms, .ref mi, .ref ma, .int 0, .ref mts, .ref mtz, .ref mtn, .ref mh, .ref mhn, .ref mhw, .ref mhz, .ref mhr, .ref mcl, .ref mtp, .int 0, .int 0, .int 0, .int 0, .int 0, .int 0, .int 0, .int 0, .int 0, .int 0, .int 0, .ref mna, .ref mpi, .ref mca, .ref mwa, .int 0, .ref mrd])), (mts, .inl (k_mts, 4, .inl tsf)), (mtz, .inl (k_mtz, 4, .inl tzf)), (mtn, .inl (k_mtn, 96, .inl tnf))]) (TR := [(k_mts, .int), (k_mtz, .int), (k_mtn, .int)]) (k := 0) (n := 0) Z [] [0, 1, 2, 3] [] [0, 1, 2] rfl rfl (by decide +kernel) (by decide +kernel) (by decide +kernel) rfl rfl (fun Zc => va_runS (As := [.int sheet]) (rest := []) X (c7_isSheet l D sheet s.heap.size) (va_cwS 1 hts gX7_sheet_X7_isSheet rfl rfl rfl zh_X7_isSheet ⟨Nat.le_of_ble_eq_true rfl, Nat.le_of_ble_eq_true rfl⟩) (zz_pS Zc) rfl rfl hl.1 rfl (lv_room (Nat.le_of_ble_eq_true rfl)) dX7_sheet_1 ⟨Nat.le_of_ble_eq_true rfl, Nat.le_of_ble_eq_true rfl⟩) rfl rfl (fun r3 u1 H1 locs2 hw2 Z3 => ?_)
  clear Z
  subst r3
  have Z4 : zz_S D A s [(mo, .inr (7, [.ref ms, .ref mi, .ref ma, .int 0, .ref mts, .ref mtz, .ref mtn, .ref mh, .ref mhn, .ref mhw, .ref mhz, .ref mhr, .ref mcl, .ref mtp, .int 0, .int 0, .int 0, .int 0, .int 0, .int 0, .int 0, .int 0, .int 0, .int 0, .int 0, .ref mna, .ref mpi, .ref mca, .ref mwa, .int 0, .ref mrd])), (mts, .inl (k_mts, 4, .inl tsf)), (mtz, .inl (k_mtz, 4, .inl tzf)), (mtn, .inl (k_mtn, 96, .inl tnf))] [(k_mts, .int), (k_mtz, .int), (k_mtn, .int)] H1 locs2 := Z3
  clear Z3
  by_cases w4 : 0 ≤ sheet ∧ sheet ≤ 3
  · obtain ⟨j, hj, e5⟩ := zz_rng 3 w4 (by decide)
    rcases (show j = 0 ∨ j = 1 ∨ j = 2 ∨ j = 3 by omega) with rfl | rfl | rfl | rfl
    · have e5 : sheet = 0 := e5
      subst e5
      refine zz_v (v := 1) (by decide) ?_
      refine lv_if_eq (tgt := 29) hx hb dX7_sheet_4 (by decide) (fun h => absurd h (by decide)) (fun _ => ?_)
      refine lv_iload_n hx hb dX7_sheet_7 rfl (lv_at hl 2 rfl) ?_
      refine lv_i2l (v := Int32.toInt64 sort) hx hb dX7_sheet_8 rfl ?_
      refine lv_ldc2 (v := (-1)) hx hb hown (hts _ (zz_m 1 rfl)) dX7_sheet_9 ?_
      refine zz_vl (v := Int32.toInt64 (-1)) (by decide) ?_
      refine lv_lconst (v := 1) hx hb dX7_sheet_12 (by decide) ?_
      refine zz_vl (v := Int32.toInt64 1) (by decide) ?_
      refine zz_ci (WC := []) (TC := []) (WR := [(mo, .inr (7, [.ref ms, .ref mi, .ref ma, .int 0, .ref mts, .ref mtz, .ref mtn, .ref mh, .ref mhn, .ref mhw, .ref mhz, .ref mhr, .ref mcl, .ref mtp, .int 0, .int 0, .int 0, .int 0, .int 0, .int 0, .int 0, .int 0, .int 0, .int 0, .int 0, .ref mna, .ref mpi, .ref mca, .ref mwa, .int 0, .ref mrd])), (mts, .inl (k_mts, 4, .inl tsf)), (mtz, .inl (k_mtz, 4, .inl tzf)), (mtn, .inl (k_mtn, 96, .inl tnf))]) (TR := [(k_mts, .int), (k_mtz, .int), (k_mtn, .int)]) (k := 0) (n := 0) Z4 [] [0, 1, 2, 3] [] [0, 1, 2] rfl rfl (by decide +kernel) (by decide +kernel) (by decide +kernel) rfl rfl (fun Zc => va_runS (As := [.long (Int32.toInt64 sort), .long (Int32.toInt64 (-1)), .long (Int32.toInt64 1)]) (rest := []) X (c_isIn l D sort (-1) 1 H1.size) (va_cwS 3 hts gX7_sheet_X7_isIn rfl rfl rfl zh_X7_isIn ⟨Nat.le_of_ble_eq_true rfl, Nat.le_of_ble_eq_true rfl⟩) (zz_pS Zc) rfl rfl hl.1 rfl (lv_room (Nat.le_of_ble_eq_true rfl)) dX7_sheet_13 ⟨Nat.le_of_ble_eq_true rfl, Nat.le_of_ble_eq_true rfl⟩) rfl rfl (fun r8 u6 H5 locs6 hw7 Z7 => ?_)
      clear Z4
      subst r8
      have Z8 : zz_S D A s [(mo, .inr (7, [.ref ms, .ref mi, .ref ma, .int 0, .ref mts, .ref mtz, .ref mtn, .ref mh, .ref mhn, .ref mhw, .ref mhz, .ref mhr, .ref mcl, .ref mtp, .int 0, .int 0, .int 0, .int 0, .int 0, .int 0, .int 0, .int 0, .int 0, .int 0, .int 0, .ref mna, .ref mpi, .ref mca, .ref mwa, .int 0, .ref mrd])), (mts, .inl (k_mts, 4, .inl tsf)), (mtz, .inl (k_mtz, 4, .inl tzf)), (mtn, .inl (k_mtn, 96, .inl tnf))] [(k_mts, .int), (k_mtz, .int), (k_mtn, .int)] H5 locs6 := Z7
      clear Z7
      by_cases w9 : (-1) ≤ sort ∧ sort ≤ 1
      · refine zz_v (v := 1) (zz_wiT w9) ?_
        refine lv_if_eq (tgt := 29) hx hb dX7_sheet_16 (by decide) (fun h => absurd h (by decide)) (fun _ => ?_)
        refine lv_iload_n hx hb dX7_sheet_19 rfl (lv_at hl 2 rfl) ?_
        refine lv_if_lt (tgt := 32) hx hb dX7_sheet_20 (by decide) (fun b10 => ?_) (fun b10 => ?_)
        · refine lv_iload_n hx hb dX7_sheet_32 rfl (lv_at hl 2 rfl) ?_
          refine lv_if_lt (tgt := 44) hx hb dX7_sheet_33 (by decide) (fun _ => ?_) (fun h => absurd b10 h)
          refine lv_aload_n hx hb dX7_sheet_44 rfl (lv_at hl 0 rfl) ?_
          refine zz_get X Z8 0 rfl rfl (fun w h => List.mem_cons_of_mem _ (List.mem_append_right _ h)) 4 rfl (zz_m 4 rfl) rfl dX7_sheet_45 ?_
          refine lv_iload_n hx hb dX7_sheet_48 rfl (lv_at hl 1 rfl) ?_
          refine lv_iload_n hx hb dX7_sheet_49 rfl (lv_at hl 2 rfl) ?_
          refine zz_istN (WS' := fun f11 => [(mo, .inr (7, [.ref ms, .ref mi, .ref ma, .int 0, .ref mts, .ref mtz, .ref mtn, .ref mh, .ref mhn, .ref mhw, .ref mhz, .ref mhr, .ref mcl, .ref mtp, .int 0, .int 0, .int 0, .int 0, .int 0, .int 0, .int 0, .int 0, .int 0, .int 0, .int 0, .ref mna, .ref mpi, .ref mca, .ref mwa, .int 0, .ref mrd])), (mts, .inl (k_mts, 4, .inl f11)), (mtz, .inl (k_mtz, 4, .inl tzf)), (mtn, .inl (k_mtn, 96, .inl tnf))]) X Z8 1 0 rfl rfl (zz_in 0 4 rfl) dX7_sheet_50 (fun _ => rfl) (fun f11 ef12 H9 locs10 Z11 => ?_)
          clear Z8
          refine lv_aload_n hx hb dX7_sheet_51 rfl (lv_at hl 0 rfl) ?_
          refine zz_get X Z11 0 rfl rfl (fun w h => List.mem_cons_of_mem _ (List.mem_append_right _ h)) 5 rfl (zz_m 5 rfl) rfl dX7_sheet_52 ?_
          refine lv_iload_n hx hb dX7_sheet_55 rfl (lv_at hl 1 rfl) ?_
          refine lv_iload_n hx hb dX7_sheet_56 rfl (lv_at hl 2 rfl) ?_
          refine lv_if_ge (tgt := 64) hx hb dX7_sheet_57 (by decide) (fun h => absurd h (Int32.not_le.mpr b10)) (fun _ => ?_)
          refine lv_iconst (v := 0) hx hb dX7_sheet_60 (by decide) ?_
          refine lv_goto (tgt := 65) hx hb dX7_sheet_61 (by decide) ?_
          refine zz_istN (WS' := fun f13 => [(mo, .inr (7, [.ref ms, .ref mi, .ref ma, .int 0, .ref mts, .ref mtz, .ref mtn, .ref mh, .ref mhn, .ref mhw, .ref mhz, .ref mhr, .ref mcl, .ref mtp, .int 0, .int 0, .int 0, .int 0, .int 0, .int 0, .int 0, .int 0, .int 0, .int 0, .int 0, .ref mna, .ref mpi, .ref mca, .ref mwa, .int 0, .ref mrd])), (mts, .inl (k_mts, 4, .inl f11)), (mtz, .inl (k_mtz, 4, .inl f13)), (mtn, .inl (k_mtn, 96, .inl tnf))]) X Z11 2 1 rfl rfl (zz_in 0 4 rfl) dX7_sheet_65 (fun _ => rfl) (fun f13 ef14 H12 locs13 Z14 => ?_)
          clear Z11
          refine lv_iconst (v := 0) hx hb dX7_sheet_66 (by decide) ?_
          refine lv_istore (lv' := [(4, .int 0), (0, .ref mo), (1, .int 0), (2, .int sort), (3, .int n)]) hx hb dX7_sheet_67 hl (by decide) rfl (fun ls15 hl16 => ?_)
          clear hl
          have loop : ∀ (k i : Nat) (vc : (Nat → Int32)), i + k = 24 → (True) → ∀ (Hq : Heap) (Lq : List Loc) (lq : Array Slot), zz_S D A s [(mo, .inr (7, [.ref ms, .ref mi, .ref ma, .int 0, .ref mts, .ref mtz, .ref mtn, .ref mh, .ref mhn, .ref mhw, .ref mhz, .ref mhr, .ref mcl, .ref mtp, .int 0, .int 0, .int 0, .int 0, .int 0, .int 0, .int 0, .int 0, .int 0, .int 0, .int 0, .ref mna, .ref mpi, .ref mca, .ref mwa, .int 0, .ref mrd])), (mts, .inl (k_mts, 4, .inl f11)), (mtz, .inl (k_mtz, 4, .inl f13)), (mtn, .inl (k_mtn, 96, .inl vc))] [(k_mts, .int), (k_mtz, .int), (k_mtn, .int)] Hq Lq → lv_has lq 5 [(4, .int (nI i)), (0, .ref mo), (1, .int 0), (2, .int sort), (3, .int n)] → W p l e (headSpec wsX7_sheet { frames := 2, cells := 0, slots := 0, locals := 45 }).room s m (List.toArray [.ref mo, .int 0, .int sort, .int n]) below meth c Hq Lq 0 0 (MQ below (va_Qi (fun (r : Int32) (u : Unit) => r = sp_sheet 0 sort n) (fun u t => zz_B D A ((fun (u : Unit) => []) u) ((fun (u : Unit) => []) u) t) A) (List.toArray [.ref mo, .int 0, .int sort, .int n]) s 0 0 A) (F0 m 69 lq []) := by
            intro k
            induction k with
            | zero =>
                intro i vc hik hinv H17 locs18 ls19 Z20 hl21
                refine lv_iload hx hb dX7_sheet_69 (lv_at hl21 0 rfl) ?_
                refine lv_bipush (v := 24) hx hb dX7_sheet_71 (by decide) ?_
                refine lv_icmp_ge (tgt := 95) hx hb dX7_sheet_73 (by decide) (fun _ => ?_) (fun h => absurd (nI_le (a := 24) (b := i) (by omega) (by omega)) h)
                refine lv_aload_n hx hb dX7_sheet_95 rfl (lv_at hl21 1 rfl) ?_
                refine zz_get X Z20 0 rfl rfl (fun w h => List.mem_cons_of_mem _ (List.mem_append_right _ h)) 5 rfl (zz_m 5 rfl) rfl dX7_sheet_96 ?_
                refine lv_iload_n hx hb dX7_sheet_99 rfl (lv_at hl21 2 rfl) ?_
                refine zz_ild X Z20 2 1 rfl rfl (zz_in 0 4 rfl) dX7_sheet_100 ?_
                refine zz_v (v := 0) (by rw [ef14]; rfl) ?_
                exact zz_iret X hr hlk Z20 () (by simp [sp_sheet, w9, (zz_tm w9.1 b10)]) [] [] (by decide +kernel) rfl rfl dX7_sheet_101
            | succ k ih =>
                intro i vc hik hinv H22 locs23 ls24 Z25 hl26
                refine lv_iload hx hb dX7_sheet_69 (lv_at hl26 0 rfl) ?_
                refine lv_bipush (v := 24) hx hb dX7_sheet_71 (by decide) ?_
                refine lv_icmp_ge (tgt := 95) hx hb dX7_sheet_73 (by decide) (fun h => absurd h (nI_ge (a := i) (b := 24) (by omega) (by omega))) (fun _ => ?_)
                refine lv_aload_n hx hb dX7_sheet_76 rfl (lv_at hl26 1 rfl) ?_
                refine zz_get X Z25 0 rfl rfl (fun w h => List.mem_cons_of_mem _ (List.mem_append_right _ h)) 6 rfl (zz_m 6 rfl) rfl dX7_sheet_77 ?_
                refine lv_bipush (v := 24) hx hb dX7_sheet_80 (by decide) ?_
                refine lv_iload_n hx hb dX7_sheet_82 rfl (lv_at hl26 2 rfl) ?_
                refine lv_imul hx hb dX7_sheet_83 ?_
                refine zz_v (v := 0) (by decide) ?_
                refine lv_iload hx hb dX7_sheet_84 (lv_at hl26 0 rfl) ?_
                refine lv_iadd hx hb dX7_sheet_86 ?_
                refine lv_iconst (v := 0) hx hb dX7_sheet_87 (by decide) ?_
                refine zz_istN (WS' := fun f15 => [(mo, .inr (7, [.ref ms, .ref mi, .ref ma, .int 0, .ref mts, .ref mtz, .ref mtn, .ref mh, .ref mhn, .ref mhw, .ref mhz, .ref mhr, .ref mcl, .ref mtp, .int 0, .int 0, .int 0, .int 0, .int 0, .int 0, .int 0, .int 0, .int 0, .int 0, .int 0, .ref mna, .ref mpi, .ref mca, .ref mwa, .int 0, .ref mrd])), (mts, .inl (k_mts, 4, .inl f11)), (mtz, .inl (k_mtz, 4, .inl f13)), (mtn, .inl (k_mtn, 96, .inl f15))]) X Z25 3 2 rfl rfl (zz_inA 0 i 96 (by omega) (by omega)) dX7_sheet_88 (fun _ => rfl) (fun f15 ef16 H27 locs28 Z29 => ?_)
                clear Z25
                refine lv_iinc (v := nI (i + 1)) (lv' := [(4, .int (nI (i + 1))), (0, .ref mo), (1, .int 0), (2, .int sort), (3, .int n)]) hx hb dX7_sheet_89 hl26 (k := 0) rfl (nI_1 i) (by decide) rfl (fun ls30 hl31 => ?_)
                clear hl26
                refine lv_goto (tgt := 69) hx hb dX7_sheet_92 (by decide) ?_
                exact ih (i + 1) f15 (by omega) trivial _ _ _ Z29 (lv_sub hl31 [0, 1, 2, 3, 4] rfl)
          exact loop 24 0 tnf (by omega) trivial _ _ _ Z14 hl16
        · refine lv_iload_n hx hb dX7_sheet_23 rfl (lv_at hl 3 rfl) ?_
          refine lv_bipush (v := 24) hx hb dX7_sheet_24 (by decide) ?_
          refine lv_icmp_le (tgt := 32) hx hb dX7_sheet_26 (by decide) (fun b17 => ?_) (fun b17 => ?_)
          · refine lv_iload_n hx hb dX7_sheet_32 rfl (lv_at hl 2 rfl) ?_
            refine lv_if_lt (tgt := 44) hx hb dX7_sheet_33 (by decide) (fun h => absurd h b10) (fun _ => ?_)
            refine lv_iload_n hx hb dX7_sheet_36 rfl (lv_at hl 3 rfl) ?_
            refine lv_if_ge (tgt := 44) hx hb dX7_sheet_37 (by decide) (fun b18 => ?_) (fun b18 => ?_)
            · refine lv_aload_n hx hb dX7_sheet_44 rfl (lv_at hl 0 rfl) ?_
              refine zz_get X Z8 0 rfl rfl (fun w h => List.mem_cons_of_mem _ (List.mem_append_right _ h)) 4 rfl (zz_m 4 rfl) rfl dX7_sheet_45 ?_
              refine lv_iload_n hx hb dX7_sheet_48 rfl (lv_at hl 1 rfl) ?_
              refine lv_iload_n hx hb dX7_sheet_49 rfl (lv_at hl 2 rfl) ?_
              refine zz_istN (WS' := fun f19 => [(mo, .inr (7, [.ref ms, .ref mi, .ref ma, .int 0, .ref mts, .ref mtz, .ref mtn, .ref mh, .ref mhn, .ref mhw, .ref mhz, .ref mhr, .ref mcl, .ref mtp, .int 0, .int 0, .int 0, .int 0, .int 0, .int 0, .int 0, .int 0, .int 0, .int 0, .int 0, .ref mna, .ref mpi, .ref mca, .ref mwa, .int 0, .ref mrd])), (mts, .inl (k_mts, 4, .inl f19)), (mtz, .inl (k_mtz, 4, .inl tzf)), (mtn, .inl (k_mtn, 96, .inl tnf))]) X Z8 1 0 rfl rfl (zz_in 0 4 rfl) dX7_sheet_50 (fun _ => rfl) (fun f19 ef20 H32 locs33 Z34 => ?_)
              clear Z8
              refine lv_aload_n hx hb dX7_sheet_51 rfl (lv_at hl 0 rfl) ?_
              refine zz_get X Z34 0 rfl rfl (fun w h => List.mem_cons_of_mem _ (List.mem_append_right _ h)) 5 rfl (zz_m 5 rfl) rfl dX7_sheet_52 ?_
              refine lv_iload_n hx hb dX7_sheet_55 rfl (lv_at hl 1 rfl) ?_
              refine lv_iload_n hx hb dX7_sheet_56 rfl (lv_at hl 2 rfl) ?_
              refine lv_if_ge (tgt := 64) hx hb dX7_sheet_57 (by decide) (fun _ => ?_) (fun h => absurd (Int32.not_lt.mp b10) h)
              refine lv_iload_n hx hb dX7_sheet_64 rfl (lv_at hl 3 rfl) ?_
              refine zz_istN (WS' := fun f21 => [(mo, .inr (7, [.ref ms, .ref mi, .ref ma, .int 0, .ref mts, .ref mtz, .ref mtn, .ref mh, .ref mhn, .ref mhw, .ref mhz, .ref mhr, .ref mcl, .ref mtp, .int 0, .int 0, .int 0, .int 0, .int 0, .int 0, .int 0, .int 0, .int 0, .int 0, .int 0, .ref mna, .ref mpi, .ref mca, .ref mwa, .int 0, .ref mrd])), (mts, .inl (k_mts, 4, .inl f19)), (mtz, .inl (k_mtz, 4, .inl f21)), (mtn, .inl (k_mtn, 96, .inl tnf))]) X Z34 2 1 rfl rfl (zz_in 0 4 rfl) dX7_sheet_65 (fun _ => rfl) (fun f21 ef22 H35 locs36 Z37 => ?_)
              clear Z34
              refine lv_iconst (v := 0) hx hb dX7_sheet_66 (by decide) ?_
              refine lv_istore (lv' := [(4, .int 0), (0, .ref mo), (1, .int 0), (2, .int sort), (3, .int n)]) hx hb dX7_sheet_67 hl (by decide) rfl (fun ls38 hl39 => ?_)
              clear hl
              have loop : ∀ (k i : Nat) (vc : (Nat → Int32)), i + k = 24 → (True) → ∀ (Hq : Heap) (Lq : List Loc) (lq : Array Slot), zz_S D A s [(mo, .inr (7, [.ref ms, .ref mi, .ref ma, .int 0, .ref mts, .ref mtz, .ref mtn, .ref mh, .ref mhn, .ref mhw, .ref mhz, .ref mhr, .ref mcl, .ref mtp, .int 0, .int 0, .int 0, .int 0, .int 0, .int 0, .int 0, .int 0, .int 0, .int 0, .int 0, .ref mna, .ref mpi, .ref mca, .ref mwa, .int 0, .ref mrd])), (mts, .inl (k_mts, 4, .inl f19)), (mtz, .inl (k_mtz, 4, .inl f21)), (mtn, .inl (k_mtn, 96, .inl vc))] [(k_mts, .int), (k_mtz, .int), (k_mtn, .int)] Hq Lq → lv_has lq 5 [(4, .int (nI i)), (0, .ref mo), (1, .int 0), (2, .int sort), (3, .int n)] → W p l e (headSpec wsX7_sheet { frames := 2, cells := 0, slots := 0, locals := 45 }).room s m (List.toArray [.ref mo, .int 0, .int sort, .int n]) below meth c Hq Lq 0 0 (MQ below (va_Qi (fun (r : Int32) (u : Unit) => r = sp_sheet 0 sort n) (fun u t => zz_B D A ((fun (u : Unit) => []) u) ((fun (u : Unit) => []) u) t) A) (List.toArray [.ref mo, .int 0, .int sort, .int n]) s 0 0 A) (F0 m 69 lq []) := by
                intro k
                induction k with
                | zero =>
                    intro i vc hik hinv H40 locs41 ls42 Z43 hl44
                    refine lv_iload hx hb dX7_sheet_69 (lv_at hl44 0 rfl) ?_
                    refine lv_bipush (v := 24) hx hb dX7_sheet_71 (by decide) ?_
                    refine lv_icmp_ge (tgt := 95) hx hb dX7_sheet_73 (by decide) (fun _ => ?_) (fun h => absurd (nI_le (a := 24) (b := i) (by omega) (by omega)) h)
                    refine lv_aload_n hx hb dX7_sheet_95 rfl (lv_at hl44 1 rfl) ?_
                    refine zz_get X Z43 0 rfl rfl (fun w h => List.mem_cons_of_mem _ (List.mem_append_right _ h)) 5 rfl (zz_m 5 rfl) rfl dX7_sheet_96 ?_
                    refine lv_iload_n hx hb dX7_sheet_99 rfl (lv_at hl44 2 rfl) ?_
                    refine zz_ild X Z43 2 1 rfl rfl (zz_in 0 4 rfl) dX7_sheet_100 ?_
                    refine zz_v (v := n) (by rw [ef22]; rfl) ?_
                    exact zz_iret X hr hlk Z43 () (by simp [sp_sheet, w9, (zz_tn b10), (Int32.not_lt.mpr b17), (Int32.not_lt.mpr b18)]) [] [] (by decide +kernel) rfl rfl dX7_sheet_101
                | succ k ih =>
                    intro i vc hik hinv H45 locs46 ls47 Z48 hl49
                    refine lv_iload hx hb dX7_sheet_69 (lv_at hl49 0 rfl) ?_
                    refine lv_bipush (v := 24) hx hb dX7_sheet_71 (by decide) ?_
                    refine lv_icmp_ge (tgt := 95) hx hb dX7_sheet_73 (by decide) (fun h => absurd h (nI_ge (a := i) (b := 24) (by omega) (by omega))) (fun _ => ?_)
                    refine lv_aload_n hx hb dX7_sheet_76 rfl (lv_at hl49 1 rfl) ?_
                    refine zz_get X Z48 0 rfl rfl (fun w h => List.mem_cons_of_mem _ (List.mem_append_right _ h)) 6 rfl (zz_m 6 rfl) rfl dX7_sheet_77 ?_
                    refine lv_bipush (v := 24) hx hb dX7_sheet_80 (by decide) ?_
                    refine lv_iload_n hx hb dX7_sheet_82 rfl (lv_at hl49 2 rfl) ?_
                    refine lv_imul hx hb dX7_sheet_83 ?_
                    refine zz_v (v := 0) (by decide) ?_
                    refine lv_iload hx hb dX7_sheet_84 (lv_at hl49 0 rfl) ?_
                    refine lv_iadd hx hb dX7_sheet_86 ?_
                    refine lv_iconst (v := 0) hx hb dX7_sheet_87 (by decide) ?_
                    refine zz_istN (WS' := fun f23 => [(mo, .inr (7, [.ref ms, .ref mi, .ref ma, .int 0, .ref mts, .ref mtz, .ref mtn, .ref mh, .ref mhn, .ref mhw, .ref mhz, .ref mhr, .ref mcl, .ref mtp, .int 0, .int 0, .int 0, .int 0, .int 0, .int 0, .int 0, .int 0, .int 0, .int 0, .int 0, .ref mna, .ref mpi, .ref mca, .ref mwa, .int 0, .ref mrd])), (mts, .inl (k_mts, 4, .inl f19)), (mtz, .inl (k_mtz, 4, .inl f21)), (mtn, .inl (k_mtn, 96, .inl f23))]) X Z48 3 2 rfl rfl (zz_inA 0 i 96 (by omega) (by omega)) dX7_sheet_88 (fun _ => rfl) (fun f23 ef24 H50 locs51 Z52 => ?_)
                    clear Z48
                    refine lv_iinc (v := nI (i + 1)) (lv' := [(4, .int (nI (i + 1))), (0, .ref mo), (1, .int 0), (2, .int sort), (3, .int n)]) hx hb dX7_sheet_89 hl49 (k := 0) rfl (nI_1 i) (by decide) rfl (fun ls53 hl54 => ?_)
                    clear hl49
                    refine lv_goto (tgt := 69) hx hb dX7_sheet_92 (by decide) ?_
                    exact ih (i + 1) f23 (by omega) trivial _ _ _ Z52 (lv_sub hl54 [0, 1, 2, 3, 4] rfl)
              exact loop 24 0 tnf (by omega) trivial _ _ _ Z37 hl39
            · refine lv_ldcw (v := (-1000000014)) hx hb hown (hts _ (zz_m 3 rfl)) dX7_sheet_40 ?_
              exact zz_iret X hr hlk Z8 () (by simp [sp_sheet, w9, (zz_tn b10), (Int32.not_lt.mpr b17), (Int32.not_le.mp b18)]) [] [] (by decide +kernel) rfl rfl dX7_sheet_43
          · refine lv_ldc (v := (-1000000001)) hx hb hown (hts _ (zz_m 2 rfl)) dX7_sheet_29 ?_
            exact zz_iret X hr hlk Z8 () (by simp [sp_sheet, w9, (zz_tn b10), (Int32.not_le.mp b17)]) [] [] (by decide +kernel) rfl rfl dX7_sheet_31
      · refine zz_v (v := 0) (zz_wiF w9) ?_
        refine lv_if_eq (tgt := 29) hx hb dX7_sheet_16 (by decide) (fun _ => ?_) (fun h => absurd (by decide) h)
        refine lv_ldc (v := (-1000000001)) hx hb hown (hts _ (zz_m 2 rfl)) dX7_sheet_29 ?_
        exact zz_iret X hr hlk Z8 () (by simp [sp_sheet, w9]) [] [] (by decide +kernel) rfl rfl dX7_sheet_31
    · have e5 : sheet = 1 := e5
      subst e5
      refine zz_v (v := 1) (by decide) ?_
      refine lv_if_eq (tgt := 29) hx hb dX7_sheet_4 (by decide) (fun h => absurd h (by decide)) (fun _ => ?_)
      refine lv_iload_n hx hb dX7_sheet_7 rfl (lv_at hl 2 rfl) ?_
      refine lv_i2l (v := Int32.toInt64 sort) hx hb dX7_sheet_8 rfl ?_
      refine lv_ldc2 (v := (-1)) hx hb hown (hts _ (zz_m 1 rfl)) dX7_sheet_9 ?_
      refine zz_vl (v := Int32.toInt64 (-1)) (by decide) ?_
      refine lv_lconst (v := 1) hx hb dX7_sheet_12 (by decide) ?_
      refine zz_vl (v := Int32.toInt64 1) (by decide) ?_
      refine zz_ci (WC := []) (TC := []) (WR := [(mo, .inr (7, [.ref ms, .ref mi, .ref ma, .int 0, .ref mts, .ref mtz, .ref mtn, .ref mh, .ref mhn, .ref mhw, .ref mhz, .ref mhr, .ref mcl, .ref mtp, .int 0, .int 0, .int 0, .int 0, .int 0, .int 0, .int 0, .int 0, .int 0, .int 0, .int 0, .ref mna, .ref mpi, .ref mca, .ref mwa, .int 0, .ref mrd])), (mts, .inl (k_mts, 4, .inl tsf)), (mtz, .inl (k_mtz, 4, .inl tzf)), (mtn, .inl (k_mtn, 96, .inl tnf))]) (TR := [(k_mts, .int), (k_mtz, .int), (k_mtn, .int)]) (k := 0) (n := 0) Z4 [] [0, 1, 2, 3] [] [0, 1, 2] rfl rfl (by decide +kernel) (by decide +kernel) (by decide +kernel) rfl rfl (fun Zc => va_runS (As := [.long (Int32.toInt64 sort), .long (Int32.toInt64 (-1)), .long (Int32.toInt64 1)]) (rest := []) X (c_isIn l D sort (-1) 1 H1.size) (va_cwS 3 hts gX7_sheet_X7_isIn rfl rfl rfl zh_X7_isIn ⟨Nat.le_of_ble_eq_true rfl, Nat.le_of_ble_eq_true rfl⟩) (zz_pS Zc) rfl rfl hl.1 rfl (lv_room (Nat.le_of_ble_eq_true rfl)) dX7_sheet_13 ⟨Nat.le_of_ble_eq_true rfl, Nat.le_of_ble_eq_true rfl⟩) rfl rfl (fun r27 u25 H55 locs56 hw26 Z57 => ?_)
      clear Z4
      subst r27
      have Z58 : zz_S D A s [(mo, .inr (7, [.ref ms, .ref mi, .ref ma, .int 0, .ref mts, .ref mtz, .ref mtn, .ref mh, .ref mhn, .ref mhw, .ref mhz, .ref mhr, .ref mcl, .ref mtp, .int 0, .int 0, .int 0, .int 0, .int 0, .int 0, .int 0, .int 0, .int 0, .int 0, .int 0, .ref mna, .ref mpi, .ref mca, .ref mwa, .int 0, .ref mrd])), (mts, .inl (k_mts, 4, .inl tsf)), (mtz, .inl (k_mtz, 4, .inl tzf)), (mtn, .inl (k_mtn, 96, .inl tnf))] [(k_mts, .int), (k_mtz, .int), (k_mtn, .int)] H55 locs56 := Z57
      clear Z57
      by_cases w28 : (-1) ≤ sort ∧ sort ≤ 1
      · refine zz_v (v := 1) (zz_wiT w28) ?_
        refine lv_if_eq (tgt := 29) hx hb dX7_sheet_16 (by decide) (fun h => absurd h (by decide)) (fun _ => ?_)
        refine lv_iload_n hx hb dX7_sheet_19 rfl (lv_at hl 2 rfl) ?_
        refine lv_if_lt (tgt := 32) hx hb dX7_sheet_20 (by decide) (fun b29 => ?_) (fun b29 => ?_)
        · refine lv_iload_n hx hb dX7_sheet_32 rfl (lv_at hl 2 rfl) ?_
          refine lv_if_lt (tgt := 44) hx hb dX7_sheet_33 (by decide) (fun _ => ?_) (fun h => absurd b29 h)
          refine lv_aload_n hx hb dX7_sheet_44 rfl (lv_at hl 0 rfl) ?_
          refine zz_get X Z58 0 rfl rfl (fun w h => List.mem_cons_of_mem _ (List.mem_append_right _ h)) 4 rfl (zz_m 4 rfl) rfl dX7_sheet_45 ?_
          refine lv_iload_n hx hb dX7_sheet_48 rfl (lv_at hl 1 rfl) ?_
          refine lv_iload_n hx hb dX7_sheet_49 rfl (lv_at hl 2 rfl) ?_
          refine zz_istN (WS' := fun f30 => [(mo, .inr (7, [.ref ms, .ref mi, .ref ma, .int 0, .ref mts, .ref mtz, .ref mtn, .ref mh, .ref mhn, .ref mhw, .ref mhz, .ref mhr, .ref mcl, .ref mtp, .int 0, .int 0, .int 0, .int 0, .int 0, .int 0, .int 0, .int 0, .int 0, .int 0, .int 0, .ref mna, .ref mpi, .ref mca, .ref mwa, .int 0, .ref mrd])), (mts, .inl (k_mts, 4, .inl f30)), (mtz, .inl (k_mtz, 4, .inl tzf)), (mtn, .inl (k_mtn, 96, .inl tnf))]) X Z58 1 0 rfl rfl (zz_in 1 4 rfl) dX7_sheet_50 (fun _ => rfl) (fun f30 ef31 H59 locs60 Z61 => ?_)
          clear Z58
          refine lv_aload_n hx hb dX7_sheet_51 rfl (lv_at hl 0 rfl) ?_
          refine zz_get X Z61 0 rfl rfl (fun w h => List.mem_cons_of_mem _ (List.mem_append_right _ h)) 5 rfl (zz_m 5 rfl) rfl dX7_sheet_52 ?_
          refine lv_iload_n hx hb dX7_sheet_55 rfl (lv_at hl 1 rfl) ?_
          refine lv_iload_n hx hb dX7_sheet_56 rfl (lv_at hl 2 rfl) ?_
          refine lv_if_ge (tgt := 64) hx hb dX7_sheet_57 (by decide) (fun h => absurd h (Int32.not_le.mpr b29)) (fun _ => ?_)
          refine lv_iconst (v := 0) hx hb dX7_sheet_60 (by decide) ?_
          refine lv_goto (tgt := 65) hx hb dX7_sheet_61 (by decide) ?_
          refine zz_istN (WS' := fun f32 => [(mo, .inr (7, [.ref ms, .ref mi, .ref ma, .int 0, .ref mts, .ref mtz, .ref mtn, .ref mh, .ref mhn, .ref mhw, .ref mhz, .ref mhr, .ref mcl, .ref mtp, .int 0, .int 0, .int 0, .int 0, .int 0, .int 0, .int 0, .int 0, .int 0, .int 0, .int 0, .ref mna, .ref mpi, .ref mca, .ref mwa, .int 0, .ref mrd])), (mts, .inl (k_mts, 4, .inl f30)), (mtz, .inl (k_mtz, 4, .inl f32)), (mtn, .inl (k_mtn, 96, .inl tnf))]) X Z61 2 1 rfl rfl (zz_in 1 4 rfl) dX7_sheet_65 (fun _ => rfl) (fun f32 ef33 H62 locs63 Z64 => ?_)
          clear Z61
          refine lv_iconst (v := 0) hx hb dX7_sheet_66 (by decide) ?_
          refine lv_istore (lv' := [(4, .int 0), (0, .ref mo), (1, .int 1), (2, .int sort), (3, .int n)]) hx hb dX7_sheet_67 hl (by decide) rfl (fun ls65 hl66 => ?_)
          clear hl
          have loop : ∀ (k i : Nat) (vc : (Nat → Int32)), i + k = 24 → (True) → ∀ (Hq : Heap) (Lq : List Loc) (lq : Array Slot), zz_S D A s [(mo, .inr (7, [.ref ms, .ref mi, .ref ma, .int 0, .ref mts, .ref mtz, .ref mtn, .ref mh, .ref mhn, .ref mhw, .ref mhz, .ref mhr, .ref mcl, .ref mtp, .int 0, .int 0, .int 0, .int 0, .int 0, .int 0, .int 0, .int 0, .int 0, .int 0, .int 0, .ref mna, .ref mpi, .ref mca, .ref mwa, .int 0, .ref mrd])), (mts, .inl (k_mts, 4, .inl f30)), (mtz, .inl (k_mtz, 4, .inl f32)), (mtn, .inl (k_mtn, 96, .inl vc))] [(k_mts, .int), (k_mtz, .int), (k_mtn, .int)] Hq Lq → lv_has lq 5 [(4, .int (nI i)), (0, .ref mo), (1, .int 1), (2, .int sort), (3, .int n)] → W p l e (headSpec wsX7_sheet { frames := 2, cells := 0, slots := 0, locals := 45 }).room s m (List.toArray [.ref mo, .int 1, .int sort, .int n]) below meth c Hq Lq 0 0 (MQ below (va_Qi (fun (r : Int32) (u : Unit) => r = sp_sheet 1 sort n) (fun u t => zz_B D A ((fun (u : Unit) => []) u) ((fun (u : Unit) => []) u) t) A) (List.toArray [.ref mo, .int 1, .int sort, .int n]) s 0 0 A) (F0 m 69 lq []) := by
            intro k
            induction k with
            | zero =>
                intro i vc hik hinv H67 locs68 ls69 Z70 hl71
                refine lv_iload hx hb dX7_sheet_69 (lv_at hl71 0 rfl) ?_
                refine lv_bipush (v := 24) hx hb dX7_sheet_71 (by decide) ?_
                refine lv_icmp_ge (tgt := 95) hx hb dX7_sheet_73 (by decide) (fun _ => ?_) (fun h => absurd (nI_le (a := 24) (b := i) (by omega) (by omega)) h)
                refine lv_aload_n hx hb dX7_sheet_95 rfl (lv_at hl71 1 rfl) ?_
                refine zz_get X Z70 0 rfl rfl (fun w h => List.mem_cons_of_mem _ (List.mem_append_right _ h)) 5 rfl (zz_m 5 rfl) rfl dX7_sheet_96 ?_
                refine lv_iload_n hx hb dX7_sheet_99 rfl (lv_at hl71 2 rfl) ?_
                refine zz_ild X Z70 2 1 rfl rfl (zz_in 1 4 rfl) dX7_sheet_100 ?_
                refine zz_v (v := 0) (by rw [ef33]; rfl) ?_
                exact zz_iret X hr hlk Z70 () (by simp [sp_sheet, w28, (zz_tm w28.1 b29)]) [] [] (by decide +kernel) rfl rfl dX7_sheet_101
            | succ k ih =>
                intro i vc hik hinv H72 locs73 ls74 Z75 hl76
                refine lv_iload hx hb dX7_sheet_69 (lv_at hl76 0 rfl) ?_
                refine lv_bipush (v := 24) hx hb dX7_sheet_71 (by decide) ?_
                refine lv_icmp_ge (tgt := 95) hx hb dX7_sheet_73 (by decide) (fun h => absurd h (nI_ge (a := i) (b := 24) (by omega) (by omega))) (fun _ => ?_)
                refine lv_aload_n hx hb dX7_sheet_76 rfl (lv_at hl76 1 rfl) ?_
                refine zz_get X Z75 0 rfl rfl (fun w h => List.mem_cons_of_mem _ (List.mem_append_right _ h)) 6 rfl (zz_m 6 rfl) rfl dX7_sheet_77 ?_
                refine lv_bipush (v := 24) hx hb dX7_sheet_80 (by decide) ?_
                refine lv_iload_n hx hb dX7_sheet_82 rfl (lv_at hl76 2 rfl) ?_
                refine lv_imul hx hb dX7_sheet_83 ?_
                refine zz_v (v := 24) (by decide) ?_
                refine lv_iload hx hb dX7_sheet_84 (lv_at hl76 0 rfl) ?_
                refine lv_iadd hx hb dX7_sheet_86 ?_
                refine lv_iconst (v := 0) hx hb dX7_sheet_87 (by decide) ?_
                refine zz_istN (WS' := fun f34 => [(mo, .inr (7, [.ref ms, .ref mi, .ref ma, .int 0, .ref mts, .ref mtz, .ref mtn, .ref mh, .ref mhn, .ref mhw, .ref mhz, .ref mhr, .ref mcl, .ref mtp, .int 0, .int 0, .int 0, .int 0, .int 0, .int 0, .int 0, .int 0, .int 0, .int 0, .int 0, .ref mna, .ref mpi, .ref mca, .ref mwa, .int 0, .ref mrd])), (mts, .inl (k_mts, 4, .inl f30)), (mtz, .inl (k_mtz, 4, .inl f32)), (mtn, .inl (k_mtn, 96, .inl f34))]) X Z75 3 2 rfl rfl (zz_inA 24 i 96 (by omega) (by omega)) dX7_sheet_88 (fun _ => rfl) (fun f34 ef35 H77 locs78 Z79 => ?_)
                clear Z75
                refine lv_iinc (v := nI (i + 1)) (lv' := [(4, .int (nI (i + 1))), (0, .ref mo), (1, .int 1), (2, .int sort), (3, .int n)]) hx hb dX7_sheet_89 hl76 (k := 0) rfl (nI_1 i) (by decide) rfl (fun ls80 hl81 => ?_)
                clear hl76
                refine lv_goto (tgt := 69) hx hb dX7_sheet_92 (by decide) ?_
                exact ih (i + 1) f34 (by omega) trivial _ _ _ Z79 (lv_sub hl81 [0, 1, 2, 3, 4] rfl)
          exact loop 24 0 tnf (by omega) trivial _ _ _ Z64 hl66
        · refine lv_iload_n hx hb dX7_sheet_23 rfl (lv_at hl 3 rfl) ?_
          refine lv_bipush (v := 24) hx hb dX7_sheet_24 (by decide) ?_
          refine lv_icmp_le (tgt := 32) hx hb dX7_sheet_26 (by decide) (fun b36 => ?_) (fun b36 => ?_)
          · refine lv_iload_n hx hb dX7_sheet_32 rfl (lv_at hl 2 rfl) ?_
            refine lv_if_lt (tgt := 44) hx hb dX7_sheet_33 (by decide) (fun h => absurd h b29) (fun _ => ?_)
            refine lv_iload_n hx hb dX7_sheet_36 rfl (lv_at hl 3 rfl) ?_
            refine lv_if_ge (tgt := 44) hx hb dX7_sheet_37 (by decide) (fun b37 => ?_) (fun b37 => ?_)
            · refine lv_aload_n hx hb dX7_sheet_44 rfl (lv_at hl 0 rfl) ?_
              refine zz_get X Z58 0 rfl rfl (fun w h => List.mem_cons_of_mem _ (List.mem_append_right _ h)) 4 rfl (zz_m 4 rfl) rfl dX7_sheet_45 ?_
              refine lv_iload_n hx hb dX7_sheet_48 rfl (lv_at hl 1 rfl) ?_
              refine lv_iload_n hx hb dX7_sheet_49 rfl (lv_at hl 2 rfl) ?_
              refine zz_istN (WS' := fun f38 => [(mo, .inr (7, [.ref ms, .ref mi, .ref ma, .int 0, .ref mts, .ref mtz, .ref mtn, .ref mh, .ref mhn, .ref mhw, .ref mhz, .ref mhr, .ref mcl, .ref mtp, .int 0, .int 0, .int 0, .int 0, .int 0, .int 0, .int 0, .int 0, .int 0, .int 0, .int 0, .ref mna, .ref mpi, .ref mca, .ref mwa, .int 0, .ref mrd])), (mts, .inl (k_mts, 4, .inl f38)), (mtz, .inl (k_mtz, 4, .inl tzf)), (mtn, .inl (k_mtn, 96, .inl tnf))]) X Z58 1 0 rfl rfl (zz_in 1 4 rfl) dX7_sheet_50 (fun _ => rfl) (fun f38 ef39 H82 locs83 Z84 => ?_)
              clear Z58
              refine lv_aload_n hx hb dX7_sheet_51 rfl (lv_at hl 0 rfl) ?_
              refine zz_get X Z84 0 rfl rfl (fun w h => List.mem_cons_of_mem _ (List.mem_append_right _ h)) 5 rfl (zz_m 5 rfl) rfl dX7_sheet_52 ?_
              refine lv_iload_n hx hb dX7_sheet_55 rfl (lv_at hl 1 rfl) ?_
              refine lv_iload_n hx hb dX7_sheet_56 rfl (lv_at hl 2 rfl) ?_
              refine lv_if_ge (tgt := 64) hx hb dX7_sheet_57 (by decide) (fun _ => ?_) (fun h => absurd (Int32.not_lt.mp b29) h)
              refine lv_iload_n hx hb dX7_sheet_64 rfl (lv_at hl 3 rfl) ?_
              refine zz_istN (WS' := fun f40 => [(mo, .inr (7, [.ref ms, .ref mi, .ref ma, .int 0, .ref mts, .ref mtz, .ref mtn, .ref mh, .ref mhn, .ref mhw, .ref mhz, .ref mhr, .ref mcl, .ref mtp, .int 0, .int 0, .int 0, .int 0, .int 0, .int 0, .int 0, .int 0, .int 0, .int 0, .int 0, .ref mna, .ref mpi, .ref mca, .ref mwa, .int 0, .ref mrd])), (mts, .inl (k_mts, 4, .inl f38)), (mtz, .inl (k_mtz, 4, .inl f40)), (mtn, .inl (k_mtn, 96, .inl tnf))]) X Z84 2 1 rfl rfl (zz_in 1 4 rfl) dX7_sheet_65 (fun _ => rfl) (fun f40 ef41 H85 locs86 Z87 => ?_)
              clear Z84
              refine lv_iconst (v := 0) hx hb dX7_sheet_66 (by decide) ?_
              refine lv_istore (lv' := [(4, .int 0), (0, .ref mo), (1, .int 1), (2, .int sort), (3, .int n)]) hx hb dX7_sheet_67 hl (by decide) rfl (fun ls88 hl89 => ?_)
              clear hl
              have loop : ∀ (k i : Nat) (vc : (Nat → Int32)), i + k = 24 → (True) → ∀ (Hq : Heap) (Lq : List Loc) (lq : Array Slot), zz_S D A s [(mo, .inr (7, [.ref ms, .ref mi, .ref ma, .int 0, .ref mts, .ref mtz, .ref mtn, .ref mh, .ref mhn, .ref mhw, .ref mhz, .ref mhr, .ref mcl, .ref mtp, .int 0, .int 0, .int 0, .int 0, .int 0, .int 0, .int 0, .int 0, .int 0, .int 0, .int 0, .ref mna, .ref mpi, .ref mca, .ref mwa, .int 0, .ref mrd])), (mts, .inl (k_mts, 4, .inl f38)), (mtz, .inl (k_mtz, 4, .inl f40)), (mtn, .inl (k_mtn, 96, .inl vc))] [(k_mts, .int), (k_mtz, .int), (k_mtn, .int)] Hq Lq → lv_has lq 5 [(4, .int (nI i)), (0, .ref mo), (1, .int 1), (2, .int sort), (3, .int n)] → W p l e (headSpec wsX7_sheet { frames := 2, cells := 0, slots := 0, locals := 45 }).room s m (List.toArray [.ref mo, .int 1, .int sort, .int n]) below meth c Hq Lq 0 0 (MQ below (va_Qi (fun (r : Int32) (u : Unit) => r = sp_sheet 1 sort n) (fun u t => zz_B D A ((fun (u : Unit) => []) u) ((fun (u : Unit) => []) u) t) A) (List.toArray [.ref mo, .int 1, .int sort, .int n]) s 0 0 A) (F0 m 69 lq []) := by
                intro k
                induction k with
                | zero =>
                    intro i vc hik hinv H90 locs91 ls92 Z93 hl94
                    refine lv_iload hx hb dX7_sheet_69 (lv_at hl94 0 rfl) ?_
                    refine lv_bipush (v := 24) hx hb dX7_sheet_71 (by decide) ?_
                    refine lv_icmp_ge (tgt := 95) hx hb dX7_sheet_73 (by decide) (fun _ => ?_) (fun h => absurd (nI_le (a := 24) (b := i) (by omega) (by omega)) h)
                    refine lv_aload_n hx hb dX7_sheet_95 rfl (lv_at hl94 1 rfl) ?_
                    refine zz_get X Z93 0 rfl rfl (fun w h => List.mem_cons_of_mem _ (List.mem_append_right _ h)) 5 rfl (zz_m 5 rfl) rfl dX7_sheet_96 ?_
                    refine lv_iload_n hx hb dX7_sheet_99 rfl (lv_at hl94 2 rfl) ?_
                    refine zz_ild X Z93 2 1 rfl rfl (zz_in 1 4 rfl) dX7_sheet_100 ?_
                    refine zz_v (v := n) (by rw [ef41]; rfl) ?_
                    exact zz_iret X hr hlk Z93 () (by simp [sp_sheet, w28, (zz_tn b29), (Int32.not_lt.mpr b36), (Int32.not_lt.mpr b37)]) [] [] (by decide +kernel) rfl rfl dX7_sheet_101
                | succ k ih =>
                    intro i vc hik hinv H95 locs96 ls97 Z98 hl99
                    refine lv_iload hx hb dX7_sheet_69 (lv_at hl99 0 rfl) ?_
                    refine lv_bipush (v := 24) hx hb dX7_sheet_71 (by decide) ?_
                    refine lv_icmp_ge (tgt := 95) hx hb dX7_sheet_73 (by decide) (fun h => absurd h (nI_ge (a := i) (b := 24) (by omega) (by omega))) (fun _ => ?_)
                    refine lv_aload_n hx hb dX7_sheet_76 rfl (lv_at hl99 1 rfl) ?_
                    refine zz_get X Z98 0 rfl rfl (fun w h => List.mem_cons_of_mem _ (List.mem_append_right _ h)) 6 rfl (zz_m 6 rfl) rfl dX7_sheet_77 ?_
                    refine lv_bipush (v := 24) hx hb dX7_sheet_80 (by decide) ?_
                    refine lv_iload_n hx hb dX7_sheet_82 rfl (lv_at hl99 2 rfl) ?_
                    refine lv_imul hx hb dX7_sheet_83 ?_
                    refine zz_v (v := 24) (by decide) ?_
                    refine lv_iload hx hb dX7_sheet_84 (lv_at hl99 0 rfl) ?_
                    refine lv_iadd hx hb dX7_sheet_86 ?_
                    refine lv_iconst (v := 0) hx hb dX7_sheet_87 (by decide) ?_
                    refine zz_istN (WS' := fun f42 => [(mo, .inr (7, [.ref ms, .ref mi, .ref ma, .int 0, .ref mts, .ref mtz, .ref mtn, .ref mh, .ref mhn, .ref mhw, .ref mhz, .ref mhr, .ref mcl, .ref mtp, .int 0, .int 0, .int 0, .int 0, .int 0, .int 0, .int 0, .int 0, .int 0, .int 0, .int 0, .ref mna, .ref mpi, .ref mca, .ref mwa, .int 0, .ref mrd])), (mts, .inl (k_mts, 4, .inl f38)), (mtz, .inl (k_mtz, 4, .inl f40)), (mtn, .inl (k_mtn, 96, .inl f42))]) X Z98 3 2 rfl rfl (zz_inA 24 i 96 (by omega) (by omega)) dX7_sheet_88 (fun _ => rfl) (fun f42 ef43 H100 locs101 Z102 => ?_)
                    clear Z98
                    refine lv_iinc (v := nI (i + 1)) (lv' := [(4, .int (nI (i + 1))), (0, .ref mo), (1, .int 1), (2, .int sort), (3, .int n)]) hx hb dX7_sheet_89 hl99 (k := 0) rfl (nI_1 i) (by decide) rfl (fun ls103 hl104 => ?_)
                    clear hl99
                    refine lv_goto (tgt := 69) hx hb dX7_sheet_92 (by decide) ?_
                    exact ih (i + 1) f42 (by omega) trivial _ _ _ Z102 (lv_sub hl104 [0, 1, 2, 3, 4] rfl)
              exact loop 24 0 tnf (by omega) trivial _ _ _ Z87 hl89
            · refine lv_ldcw (v := (-1000000014)) hx hb hown (hts _ (zz_m 3 rfl)) dX7_sheet_40 ?_
              exact zz_iret X hr hlk Z58 () (by simp [sp_sheet, w28, (zz_tn b29), (Int32.not_lt.mpr b36), (Int32.not_le.mp b37)]) [] [] (by decide +kernel) rfl rfl dX7_sheet_43
          · refine lv_ldc (v := (-1000000001)) hx hb hown (hts _ (zz_m 2 rfl)) dX7_sheet_29 ?_
            exact zz_iret X hr hlk Z58 () (by simp [sp_sheet, w28, (zz_tn b29), (Int32.not_le.mp b36)]) [] [] (by decide +kernel) rfl rfl dX7_sheet_31
      · refine zz_v (v := 0) (zz_wiF w28) ?_
        refine lv_if_eq (tgt := 29) hx hb dX7_sheet_16 (by decide) (fun _ => ?_) (fun h => absurd (by decide) h)
        refine lv_ldc (v := (-1000000001)) hx hb hown (hts _ (zz_m 2 rfl)) dX7_sheet_29 ?_
        exact zz_iret X hr hlk Z58 () (by simp [sp_sheet, w28]) [] [] (by decide +kernel) rfl rfl dX7_sheet_31
    · have e5 : sheet = 2 := e5
      subst e5
      refine zz_v (v := 1) (by decide) ?_
      refine lv_if_eq (tgt := 29) hx hb dX7_sheet_4 (by decide) (fun h => absurd h (by decide)) (fun _ => ?_)
      refine lv_iload_n hx hb dX7_sheet_7 rfl (lv_at hl 2 rfl) ?_
      refine lv_i2l (v := Int32.toInt64 sort) hx hb dX7_sheet_8 rfl ?_
      refine lv_ldc2 (v := (-1)) hx hb hown (hts _ (zz_m 1 rfl)) dX7_sheet_9 ?_
      refine zz_vl (v := Int32.toInt64 (-1)) (by decide) ?_
      refine lv_lconst (v := 1) hx hb dX7_sheet_12 (by decide) ?_
      refine zz_vl (v := Int32.toInt64 1) (by decide) ?_
      refine zz_ci (WC := []) (TC := []) (WR := [(mo, .inr (7, [.ref ms, .ref mi, .ref ma, .int 0, .ref mts, .ref mtz, .ref mtn, .ref mh, .ref mhn, .ref mhw, .ref mhz, .ref mhr, .ref mcl, .ref mtp, .int 0, .int 0, .int 0, .int 0, .int 0, .int 0, .int 0, .int 0, .int 0, .int 0, .int 0, .ref mna, .ref mpi, .ref mca, .ref mwa, .int 0, .ref mrd])), (mts, .inl (k_mts, 4, .inl tsf)), (mtz, .inl (k_mtz, 4, .inl tzf)), (mtn, .inl (k_mtn, 96, .inl tnf))]) (TR := [(k_mts, .int), (k_mtz, .int), (k_mtn, .int)]) (k := 0) (n := 0) Z4 [] [0, 1, 2, 3] [] [0, 1, 2] rfl rfl (by decide +kernel) (by decide +kernel) (by decide +kernel) rfl rfl (fun Zc => va_runS (As := [.long (Int32.toInt64 sort), .long (Int32.toInt64 (-1)), .long (Int32.toInt64 1)]) (rest := []) X (c_isIn l D sort (-1) 1 H1.size) (va_cwS 3 hts gX7_sheet_X7_isIn rfl rfl rfl zh_X7_isIn ⟨Nat.le_of_ble_eq_true rfl, Nat.le_of_ble_eq_true rfl⟩) (zz_pS Zc) rfl rfl hl.1 rfl (lv_room (Nat.le_of_ble_eq_true rfl)) dX7_sheet_13 ⟨Nat.le_of_ble_eq_true rfl, Nat.le_of_ble_eq_true rfl⟩) rfl rfl (fun r46 u44 H105 locs106 hw45 Z107 => ?_)
      clear Z4
      subst r46
      have Z108 : zz_S D A s [(mo, .inr (7, [.ref ms, .ref mi, .ref ma, .int 0, .ref mts, .ref mtz, .ref mtn, .ref mh, .ref mhn, .ref mhw, .ref mhz, .ref mhr, .ref mcl, .ref mtp, .int 0, .int 0, .int 0, .int 0, .int 0, .int 0, .int 0, .int 0, .int 0, .int 0, .int 0, .ref mna, .ref mpi, .ref mca, .ref mwa, .int 0, .ref mrd])), (mts, .inl (k_mts, 4, .inl tsf)), (mtz, .inl (k_mtz, 4, .inl tzf)), (mtn, .inl (k_mtn, 96, .inl tnf))] [(k_mts, .int), (k_mtz, .int), (k_mtn, .int)] H105 locs106 := Z107
      clear Z107
      by_cases w47 : (-1) ≤ sort ∧ sort ≤ 1
      · refine zz_v (v := 1) (zz_wiT w47) ?_
        refine lv_if_eq (tgt := 29) hx hb dX7_sheet_16 (by decide) (fun h => absurd h (by decide)) (fun _ => ?_)
        refine lv_iload_n hx hb dX7_sheet_19 rfl (lv_at hl 2 rfl) ?_
        refine lv_if_lt (tgt := 32) hx hb dX7_sheet_20 (by decide) (fun b48 => ?_) (fun b48 => ?_)
        · refine lv_iload_n hx hb dX7_sheet_32 rfl (lv_at hl 2 rfl) ?_
          refine lv_if_lt (tgt := 44) hx hb dX7_sheet_33 (by decide) (fun _ => ?_) (fun h => absurd b48 h)
          refine lv_aload_n hx hb dX7_sheet_44 rfl (lv_at hl 0 rfl) ?_
          refine zz_get X Z108 0 rfl rfl (fun w h => List.mem_cons_of_mem _ (List.mem_append_right _ h)) 4 rfl (zz_m 4 rfl) rfl dX7_sheet_45 ?_
          refine lv_iload_n hx hb dX7_sheet_48 rfl (lv_at hl 1 rfl) ?_
          refine lv_iload_n hx hb dX7_sheet_49 rfl (lv_at hl 2 rfl) ?_
          refine zz_istN (WS' := fun f49 => [(mo, .inr (7, [.ref ms, .ref mi, .ref ma, .int 0, .ref mts, .ref mtz, .ref mtn, .ref mh, .ref mhn, .ref mhw, .ref mhz, .ref mhr, .ref mcl, .ref mtp, .int 0, .int 0, .int 0, .int 0, .int 0, .int 0, .int 0, .int 0, .int 0, .int 0, .int 0, .ref mna, .ref mpi, .ref mca, .ref mwa, .int 0, .ref mrd])), (mts, .inl (k_mts, 4, .inl f49)), (mtz, .inl (k_mtz, 4, .inl tzf)), (mtn, .inl (k_mtn, 96, .inl tnf))]) X Z108 1 0 rfl rfl (zz_in 2 4 rfl) dX7_sheet_50 (fun _ => rfl) (fun f49 ef50 H109 locs110 Z111 => ?_)
          clear Z108
          refine lv_aload_n hx hb dX7_sheet_51 rfl (lv_at hl 0 rfl) ?_
          refine zz_get X Z111 0 rfl rfl (fun w h => List.mem_cons_of_mem _ (List.mem_append_right _ h)) 5 rfl (zz_m 5 rfl) rfl dX7_sheet_52 ?_
          refine lv_iload_n hx hb dX7_sheet_55 rfl (lv_at hl 1 rfl) ?_
          refine lv_iload_n hx hb dX7_sheet_56 rfl (lv_at hl 2 rfl) ?_
          refine lv_if_ge (tgt := 64) hx hb dX7_sheet_57 (by decide) (fun h => absurd h (Int32.not_le.mpr b48)) (fun _ => ?_)
          refine lv_iconst (v := 0) hx hb dX7_sheet_60 (by decide) ?_
          refine lv_goto (tgt := 65) hx hb dX7_sheet_61 (by decide) ?_
          refine zz_istN (WS' := fun f51 => [(mo, .inr (7, [.ref ms, .ref mi, .ref ma, .int 0, .ref mts, .ref mtz, .ref mtn, .ref mh, .ref mhn, .ref mhw, .ref mhz, .ref mhr, .ref mcl, .ref mtp, .int 0, .int 0, .int 0, .int 0, .int 0, .int 0, .int 0, .int 0, .int 0, .int 0, .int 0, .ref mna, .ref mpi, .ref mca, .ref mwa, .int 0, .ref mrd])), (mts, .inl (k_mts, 4, .inl f49)), (mtz, .inl (k_mtz, 4, .inl f51)), (mtn, .inl (k_mtn, 96, .inl tnf))]) X Z111 2 1 rfl rfl (zz_in 2 4 rfl) dX7_sheet_65 (fun _ => rfl) (fun f51 ef52 H112 locs113 Z114 => ?_)
          clear Z111
          refine lv_iconst (v := 0) hx hb dX7_sheet_66 (by decide) ?_
          refine lv_istore (lv' := [(4, .int 0), (0, .ref mo), (1, .int 2), (2, .int sort), (3, .int n)]) hx hb dX7_sheet_67 hl (by decide) rfl (fun ls115 hl116 => ?_)
          clear hl
          have loop : ∀ (k i : Nat) (vc : (Nat → Int32)), i + k = 24 → (True) → ∀ (Hq : Heap) (Lq : List Loc) (lq : Array Slot), zz_S D A s [(mo, .inr (7, [.ref ms, .ref mi, .ref ma, .int 0, .ref mts, .ref mtz, .ref mtn, .ref mh, .ref mhn, .ref mhw, .ref mhz, .ref mhr, .ref mcl, .ref mtp, .int 0, .int 0, .int 0, .int 0, .int 0, .int 0, .int 0, .int 0, .int 0, .int 0, .int 0, .ref mna, .ref mpi, .ref mca, .ref mwa, .int 0, .ref mrd])), (mts, .inl (k_mts, 4, .inl f49)), (mtz, .inl (k_mtz, 4, .inl f51)), (mtn, .inl (k_mtn, 96, .inl vc))] [(k_mts, .int), (k_mtz, .int), (k_mtn, .int)] Hq Lq → lv_has lq 5 [(4, .int (nI i)), (0, .ref mo), (1, .int 2), (2, .int sort), (3, .int n)] → W p l e (headSpec wsX7_sheet { frames := 2, cells := 0, slots := 0, locals := 45 }).room s m (List.toArray [.ref mo, .int 2, .int sort, .int n]) below meth c Hq Lq 0 0 (MQ below (va_Qi (fun (r : Int32) (u : Unit) => r = sp_sheet 2 sort n) (fun u t => zz_B D A ((fun (u : Unit) => []) u) ((fun (u : Unit) => []) u) t) A) (List.toArray [.ref mo, .int 2, .int sort, .int n]) s 0 0 A) (F0 m 69 lq []) := by
            intro k
            induction k with
            | zero =>
                intro i vc hik hinv H117 locs118 ls119 Z120 hl121
                refine lv_iload hx hb dX7_sheet_69 (lv_at hl121 0 rfl) ?_
                refine lv_bipush (v := 24) hx hb dX7_sheet_71 (by decide) ?_
                refine lv_icmp_ge (tgt := 95) hx hb dX7_sheet_73 (by decide) (fun _ => ?_) (fun h => absurd (nI_le (a := 24) (b := i) (by omega) (by omega)) h)
                refine lv_aload_n hx hb dX7_sheet_95 rfl (lv_at hl121 1 rfl) ?_
                refine zz_get X Z120 0 rfl rfl (fun w h => List.mem_cons_of_mem _ (List.mem_append_right _ h)) 5 rfl (zz_m 5 rfl) rfl dX7_sheet_96 ?_
                refine lv_iload_n hx hb dX7_sheet_99 rfl (lv_at hl121 2 rfl) ?_
                refine zz_ild X Z120 2 1 rfl rfl (zz_in 2 4 rfl) dX7_sheet_100 ?_
                refine zz_v (v := 0) (by rw [ef52]; rfl) ?_
                exact zz_iret X hr hlk Z120 () (by simp [sp_sheet, w47, (zz_tm w47.1 b48)]) [] [] (by decide +kernel) rfl rfl dX7_sheet_101
            | succ k ih =>
                intro i vc hik hinv H122 locs123 ls124 Z125 hl126
                refine lv_iload hx hb dX7_sheet_69 (lv_at hl126 0 rfl) ?_
                refine lv_bipush (v := 24) hx hb dX7_sheet_71 (by decide) ?_
                refine lv_icmp_ge (tgt := 95) hx hb dX7_sheet_73 (by decide) (fun h => absurd h (nI_ge (a := i) (b := 24) (by omega) (by omega))) (fun _ => ?_)
                refine lv_aload_n hx hb dX7_sheet_76 rfl (lv_at hl126 1 rfl) ?_
                refine zz_get X Z125 0 rfl rfl (fun w h => List.mem_cons_of_mem _ (List.mem_append_right _ h)) 6 rfl (zz_m 6 rfl) rfl dX7_sheet_77 ?_
                refine lv_bipush (v := 24) hx hb dX7_sheet_80 (by decide) ?_
                refine lv_iload_n hx hb dX7_sheet_82 rfl (lv_at hl126 2 rfl) ?_
                refine lv_imul hx hb dX7_sheet_83 ?_
                refine zz_v (v := 48) (by decide) ?_
                refine lv_iload hx hb dX7_sheet_84 (lv_at hl126 0 rfl) ?_
                refine lv_iadd hx hb dX7_sheet_86 ?_
                refine lv_iconst (v := 0) hx hb dX7_sheet_87 (by decide) ?_
                refine zz_istN (WS' := fun f53 => [(mo, .inr (7, [.ref ms, .ref mi, .ref ma, .int 0, .ref mts, .ref mtz, .ref mtn, .ref mh, .ref mhn, .ref mhw, .ref mhz, .ref mhr, .ref mcl, .ref mtp, .int 0, .int 0, .int 0, .int 0, .int 0, .int 0, .int 0, .int 0, .int 0, .int 0, .int 0, .ref mna, .ref mpi, .ref mca, .ref mwa, .int 0, .ref mrd])), (mts, .inl (k_mts, 4, .inl f49)), (mtz, .inl (k_mtz, 4, .inl f51)), (mtn, .inl (k_mtn, 96, .inl f53))]) X Z125 3 2 rfl rfl (zz_inA 48 i 96 (by omega) (by omega)) dX7_sheet_88 (fun _ => rfl) (fun f53 ef54 H127 locs128 Z129 => ?_)
                clear Z125
                refine lv_iinc (v := nI (i + 1)) (lv' := [(4, .int (nI (i + 1))), (0, .ref mo), (1, .int 2), (2, .int sort), (3, .int n)]) hx hb dX7_sheet_89 hl126 (k := 0) rfl (nI_1 i) (by decide) rfl (fun ls130 hl131 => ?_)
                clear hl126
                refine lv_goto (tgt := 69) hx hb dX7_sheet_92 (by decide) ?_
                exact ih (i + 1) f53 (by omega) trivial _ _ _ Z129 (lv_sub hl131 [0, 1, 2, 3, 4] rfl)
          exact loop 24 0 tnf (by omega) trivial _ _ _ Z114 hl116
        · refine lv_iload_n hx hb dX7_sheet_23 rfl (lv_at hl 3 rfl) ?_
          refine lv_bipush (v := 24) hx hb dX7_sheet_24 (by decide) ?_
          refine lv_icmp_le (tgt := 32) hx hb dX7_sheet_26 (by decide) (fun b55 => ?_) (fun b55 => ?_)
          · refine lv_iload_n hx hb dX7_sheet_32 rfl (lv_at hl 2 rfl) ?_
            refine lv_if_lt (tgt := 44) hx hb dX7_sheet_33 (by decide) (fun h => absurd h b48) (fun _ => ?_)
            refine lv_iload_n hx hb dX7_sheet_36 rfl (lv_at hl 3 rfl) ?_
            refine lv_if_ge (tgt := 44) hx hb dX7_sheet_37 (by decide) (fun b56 => ?_) (fun b56 => ?_)
            · refine lv_aload_n hx hb dX7_sheet_44 rfl (lv_at hl 0 rfl) ?_
              refine zz_get X Z108 0 rfl rfl (fun w h => List.mem_cons_of_mem _ (List.mem_append_right _ h)) 4 rfl (zz_m 4 rfl) rfl dX7_sheet_45 ?_
              refine lv_iload_n hx hb dX7_sheet_48 rfl (lv_at hl 1 rfl) ?_
              refine lv_iload_n hx hb dX7_sheet_49 rfl (lv_at hl 2 rfl) ?_
              refine zz_istN (WS' := fun f57 => [(mo, .inr (7, [.ref ms, .ref mi, .ref ma, .int 0, .ref mts, .ref mtz, .ref mtn, .ref mh, .ref mhn, .ref mhw, .ref mhz, .ref mhr, .ref mcl, .ref mtp, .int 0, .int 0, .int 0, .int 0, .int 0, .int 0, .int 0, .int 0, .int 0, .int 0, .int 0, .ref mna, .ref mpi, .ref mca, .ref mwa, .int 0, .ref mrd])), (mts, .inl (k_mts, 4, .inl f57)), (mtz, .inl (k_mtz, 4, .inl tzf)), (mtn, .inl (k_mtn, 96, .inl tnf))]) X Z108 1 0 rfl rfl (zz_in 2 4 rfl) dX7_sheet_50 (fun _ => rfl) (fun f57 ef58 H132 locs133 Z134 => ?_)
              clear Z108
              refine lv_aload_n hx hb dX7_sheet_51 rfl (lv_at hl 0 rfl) ?_
              refine zz_get X Z134 0 rfl rfl (fun w h => List.mem_cons_of_mem _ (List.mem_append_right _ h)) 5 rfl (zz_m 5 rfl) rfl dX7_sheet_52 ?_
              refine lv_iload_n hx hb dX7_sheet_55 rfl (lv_at hl 1 rfl) ?_
              refine lv_iload_n hx hb dX7_sheet_56 rfl (lv_at hl 2 rfl) ?_
              refine lv_if_ge (tgt := 64) hx hb dX7_sheet_57 (by decide) (fun _ => ?_) (fun h => absurd (Int32.not_lt.mp b48) h)
              refine lv_iload_n hx hb dX7_sheet_64 rfl (lv_at hl 3 rfl) ?_
              refine zz_istN (WS' := fun f59 => [(mo, .inr (7, [.ref ms, .ref mi, .ref ma, .int 0, .ref mts, .ref mtz, .ref mtn, .ref mh, .ref mhn, .ref mhw, .ref mhz, .ref mhr, .ref mcl, .ref mtp, .int 0, .int 0, .int 0, .int 0, .int 0, .int 0, .int 0, .int 0, .int 0, .int 0, .int 0, .ref mna, .ref mpi, .ref mca, .ref mwa, .int 0, .ref mrd])), (mts, .inl (k_mts, 4, .inl f57)), (mtz, .inl (k_mtz, 4, .inl f59)), (mtn, .inl (k_mtn, 96, .inl tnf))]) X Z134 2 1 rfl rfl (zz_in 2 4 rfl) dX7_sheet_65 (fun _ => rfl) (fun f59 ef60 H135 locs136 Z137 => ?_)
              clear Z134
              refine lv_iconst (v := 0) hx hb dX7_sheet_66 (by decide) ?_
              refine lv_istore (lv' := [(4, .int 0), (0, .ref mo), (1, .int 2), (2, .int sort), (3, .int n)]) hx hb dX7_sheet_67 hl (by decide) rfl (fun ls138 hl139 => ?_)
              clear hl
              have loop : ∀ (k i : Nat) (vc : (Nat → Int32)), i + k = 24 → (True) → ∀ (Hq : Heap) (Lq : List Loc) (lq : Array Slot), zz_S D A s [(mo, .inr (7, [.ref ms, .ref mi, .ref ma, .int 0, .ref mts, .ref mtz, .ref mtn, .ref mh, .ref mhn, .ref mhw, .ref mhz, .ref mhr, .ref mcl, .ref mtp, .int 0, .int 0, .int 0, .int 0, .int 0, .int 0, .int 0, .int 0, .int 0, .int 0, .int 0, .ref mna, .ref mpi, .ref mca, .ref mwa, .int 0, .ref mrd])), (mts, .inl (k_mts, 4, .inl f57)), (mtz, .inl (k_mtz, 4, .inl f59)), (mtn, .inl (k_mtn, 96, .inl vc))] [(k_mts, .int), (k_mtz, .int), (k_mtn, .int)] Hq Lq → lv_has lq 5 [(4, .int (nI i)), (0, .ref mo), (1, .int 2), (2, .int sort), (3, .int n)] → W p l e (headSpec wsX7_sheet { frames := 2, cells := 0, slots := 0, locals := 45 }).room s m (List.toArray [.ref mo, .int 2, .int sort, .int n]) below meth c Hq Lq 0 0 (MQ below (va_Qi (fun (r : Int32) (u : Unit) => r = sp_sheet 2 sort n) (fun u t => zz_B D A ((fun (u : Unit) => []) u) ((fun (u : Unit) => []) u) t) A) (List.toArray [.ref mo, .int 2, .int sort, .int n]) s 0 0 A) (F0 m 69 lq []) := by
                intro k
                induction k with
                | zero =>
                    intro i vc hik hinv H140 locs141 ls142 Z143 hl144
                    refine lv_iload hx hb dX7_sheet_69 (lv_at hl144 0 rfl) ?_
                    refine lv_bipush (v := 24) hx hb dX7_sheet_71 (by decide) ?_
                    refine lv_icmp_ge (tgt := 95) hx hb dX7_sheet_73 (by decide) (fun _ => ?_) (fun h => absurd (nI_le (a := 24) (b := i) (by omega) (by omega)) h)
                    refine lv_aload_n hx hb dX7_sheet_95 rfl (lv_at hl144 1 rfl) ?_
                    refine zz_get X Z143 0 rfl rfl (fun w h => List.mem_cons_of_mem _ (List.mem_append_right _ h)) 5 rfl (zz_m 5 rfl) rfl dX7_sheet_96 ?_
                    refine lv_iload_n hx hb dX7_sheet_99 rfl (lv_at hl144 2 rfl) ?_
                    refine zz_ild X Z143 2 1 rfl rfl (zz_in 2 4 rfl) dX7_sheet_100 ?_
                    refine zz_v (v := n) (by rw [ef60]; rfl) ?_
                    exact zz_iret X hr hlk Z143 () (by simp [sp_sheet, w47, (zz_tn b48), (Int32.not_lt.mpr b55), (Int32.not_lt.mpr b56)]) [] [] (by decide +kernel) rfl rfl dX7_sheet_101
                | succ k ih =>
                    intro i vc hik hinv H145 locs146 ls147 Z148 hl149
                    refine lv_iload hx hb dX7_sheet_69 (lv_at hl149 0 rfl) ?_
                    refine lv_bipush (v := 24) hx hb dX7_sheet_71 (by decide) ?_
                    refine lv_icmp_ge (tgt := 95) hx hb dX7_sheet_73 (by decide) (fun h => absurd h (nI_ge (a := i) (b := 24) (by omega) (by omega))) (fun _ => ?_)
                    refine lv_aload_n hx hb dX7_sheet_76 rfl (lv_at hl149 1 rfl) ?_
                    refine zz_get X Z148 0 rfl rfl (fun w h => List.mem_cons_of_mem _ (List.mem_append_right _ h)) 6 rfl (zz_m 6 rfl) rfl dX7_sheet_77 ?_
                    refine lv_bipush (v := 24) hx hb dX7_sheet_80 (by decide) ?_
                    refine lv_iload_n hx hb dX7_sheet_82 rfl (lv_at hl149 2 rfl) ?_
                    refine lv_imul hx hb dX7_sheet_83 ?_
                    refine zz_v (v := 48) (by decide) ?_
                    refine lv_iload hx hb dX7_sheet_84 (lv_at hl149 0 rfl) ?_
                    refine lv_iadd hx hb dX7_sheet_86 ?_
                    refine lv_iconst (v := 0) hx hb dX7_sheet_87 (by decide) ?_
                    refine zz_istN (WS' := fun f61 => [(mo, .inr (7, [.ref ms, .ref mi, .ref ma, .int 0, .ref mts, .ref mtz, .ref mtn, .ref mh, .ref mhn, .ref mhw, .ref mhz, .ref mhr, .ref mcl, .ref mtp, .int 0, .int 0, .int 0, .int 0, .int 0, .int 0, .int 0, .int 0, .int 0, .int 0, .int 0, .ref mna, .ref mpi, .ref mca, .ref mwa, .int 0, .ref mrd])), (mts, .inl (k_mts, 4, .inl f57)), (mtz, .inl (k_mtz, 4, .inl f59)), (mtn, .inl (k_mtn, 96, .inl f61))]) X Z148 3 2 rfl rfl (zz_inA 48 i 96 (by omega) (by omega)) dX7_sheet_88 (fun _ => rfl) (fun f61 ef62 H150 locs151 Z152 => ?_)
                    clear Z148
                    refine lv_iinc (v := nI (i + 1)) (lv' := [(4, .int (nI (i + 1))), (0, .ref mo), (1, .int 2), (2, .int sort), (3, .int n)]) hx hb dX7_sheet_89 hl149 (k := 0) rfl (nI_1 i) (by decide) rfl (fun ls153 hl154 => ?_)
                    clear hl149
                    refine lv_goto (tgt := 69) hx hb dX7_sheet_92 (by decide) ?_
                    exact ih (i + 1) f61 (by omega) trivial _ _ _ Z152 (lv_sub hl154 [0, 1, 2, 3, 4] rfl)
              exact loop 24 0 tnf (by omega) trivial _ _ _ Z137 hl139
            · refine lv_ldcw (v := (-1000000014)) hx hb hown (hts _ (zz_m 3 rfl)) dX7_sheet_40 ?_
              exact zz_iret X hr hlk Z108 () (by simp [sp_sheet, w47, (zz_tn b48), (Int32.not_lt.mpr b55), (Int32.not_le.mp b56)]) [] [] (by decide +kernel) rfl rfl dX7_sheet_43
          · refine lv_ldc (v := (-1000000001)) hx hb hown (hts _ (zz_m 2 rfl)) dX7_sheet_29 ?_
            exact zz_iret X hr hlk Z108 () (by simp [sp_sheet, w47, (zz_tn b48), (Int32.not_le.mp b55)]) [] [] (by decide +kernel) rfl rfl dX7_sheet_31
      · refine zz_v (v := 0) (zz_wiF w47) ?_
        refine lv_if_eq (tgt := 29) hx hb dX7_sheet_16 (by decide) (fun _ => ?_) (fun h => absurd (by decide) h)
        refine lv_ldc (v := (-1000000001)) hx hb hown (hts _ (zz_m 2 rfl)) dX7_sheet_29 ?_
        exact zz_iret X hr hlk Z108 () (by simp [sp_sheet, w47]) [] [] (by decide +kernel) rfl rfl dX7_sheet_31
    · have e5 : sheet = 3 := e5
      subst e5
      refine zz_v (v := 1) (by decide) ?_
      refine lv_if_eq (tgt := 29) hx hb dX7_sheet_4 (by decide) (fun h => absurd h (by decide)) (fun _ => ?_)
      refine lv_iload_n hx hb dX7_sheet_7 rfl (lv_at hl 2 rfl) ?_
      refine lv_i2l (v := Int32.toInt64 sort) hx hb dX7_sheet_8 rfl ?_
      refine lv_ldc2 (v := (-1)) hx hb hown (hts _ (zz_m 1 rfl)) dX7_sheet_9 ?_
      refine zz_vl (v := Int32.toInt64 (-1)) (by decide) ?_
      refine lv_lconst (v := 1) hx hb dX7_sheet_12 (by decide) ?_
      refine zz_vl (v := Int32.toInt64 1) (by decide) ?_
      refine zz_ci (WC := []) (TC := []) (WR := [(mo, .inr (7, [.ref ms, .ref mi, .ref ma, .int 0, .ref mts, .ref mtz, .ref mtn, .ref mh, .ref mhn, .ref mhw, .ref mhz, .ref mhr, .ref mcl, .ref mtp, .int 0, .int 0, .int 0, .int 0, .int 0, .int 0, .int 0, .int 0, .int 0, .int 0, .int 0, .ref mna, .ref mpi, .ref mca, .ref mwa, .int 0, .ref mrd])), (mts, .inl (k_mts, 4, .inl tsf)), (mtz, .inl (k_mtz, 4, .inl tzf)), (mtn, .inl (k_mtn, 96, .inl tnf))]) (TR := [(k_mts, .int), (k_mtz, .int), (k_mtn, .int)]) (k := 0) (n := 0) Z4 [] [0, 1, 2, 3] [] [0, 1, 2] rfl rfl (by decide +kernel) (by decide +kernel) (by decide +kernel) rfl rfl (fun Zc => va_runS (As := [.long (Int32.toInt64 sort), .long (Int32.toInt64 (-1)), .long (Int32.toInt64 1)]) (rest := []) X (c_isIn l D sort (-1) 1 H1.size) (va_cwS 3 hts gX7_sheet_X7_isIn rfl rfl rfl zh_X7_isIn ⟨Nat.le_of_ble_eq_true rfl, Nat.le_of_ble_eq_true rfl⟩) (zz_pS Zc) rfl rfl hl.1 rfl (lv_room (Nat.le_of_ble_eq_true rfl)) dX7_sheet_13 ⟨Nat.le_of_ble_eq_true rfl, Nat.le_of_ble_eq_true rfl⟩) rfl rfl (fun r65 u63 H155 locs156 hw64 Z157 => ?_)
      clear Z4
      subst r65
      have Z158 : zz_S D A s [(mo, .inr (7, [.ref ms, .ref mi, .ref ma, .int 0, .ref mts, .ref mtz, .ref mtn, .ref mh, .ref mhn, .ref mhw, .ref mhz, .ref mhr, .ref mcl, .ref mtp, .int 0, .int 0, .int 0, .int 0, .int 0, .int 0, .int 0, .int 0, .int 0, .int 0, .int 0, .ref mna, .ref mpi, .ref mca, .ref mwa, .int 0, .ref mrd])), (mts, .inl (k_mts, 4, .inl tsf)), (mtz, .inl (k_mtz, 4, .inl tzf)), (mtn, .inl (k_mtn, 96, .inl tnf))] [(k_mts, .int), (k_mtz, .int), (k_mtn, .int)] H155 locs156 := Z157
      clear Z157
      by_cases w66 : (-1) ≤ sort ∧ sort ≤ 1
      · refine zz_v (v := 1) (zz_wiT w66) ?_
        refine lv_if_eq (tgt := 29) hx hb dX7_sheet_16 (by decide) (fun h => absurd h (by decide)) (fun _ => ?_)
        refine lv_iload_n hx hb dX7_sheet_19 rfl (lv_at hl 2 rfl) ?_
        refine lv_if_lt (tgt := 32) hx hb dX7_sheet_20 (by decide) (fun b67 => ?_) (fun b67 => ?_)
        · refine lv_iload_n hx hb dX7_sheet_32 rfl (lv_at hl 2 rfl) ?_
          refine lv_if_lt (tgt := 44) hx hb dX7_sheet_33 (by decide) (fun _ => ?_) (fun h => absurd b67 h)
          refine lv_aload_n hx hb dX7_sheet_44 rfl (lv_at hl 0 rfl) ?_
          refine zz_get X Z158 0 rfl rfl (fun w h => List.mem_cons_of_mem _ (List.mem_append_right _ h)) 4 rfl (zz_m 4 rfl) rfl dX7_sheet_45 ?_
          refine lv_iload_n hx hb dX7_sheet_48 rfl (lv_at hl 1 rfl) ?_
          refine lv_iload_n hx hb dX7_sheet_49 rfl (lv_at hl 2 rfl) ?_
          refine zz_istN (WS' := fun f68 => [(mo, .inr (7, [.ref ms, .ref mi, .ref ma, .int 0, .ref mts, .ref mtz, .ref mtn, .ref mh, .ref mhn, .ref mhw, .ref mhz, .ref mhr, .ref mcl, .ref mtp, .int 0, .int 0, .int 0, .int 0, .int 0, .int 0, .int 0, .int 0, .int 0, .int 0, .int 0, .ref mna, .ref mpi, .ref mca, .ref mwa, .int 0, .ref mrd])), (mts, .inl (k_mts, 4, .inl f68)), (mtz, .inl (k_mtz, 4, .inl tzf)), (mtn, .inl (k_mtn, 96, .inl tnf))]) X Z158 1 0 rfl rfl (zz_in 3 4 rfl) dX7_sheet_50 (fun _ => rfl) (fun f68 ef69 H159 locs160 Z161 => ?_)
          clear Z158
          refine lv_aload_n hx hb dX7_sheet_51 rfl (lv_at hl 0 rfl) ?_
          refine zz_get X Z161 0 rfl rfl (fun w h => List.mem_cons_of_mem _ (List.mem_append_right _ h)) 5 rfl (zz_m 5 rfl) rfl dX7_sheet_52 ?_
          refine lv_iload_n hx hb dX7_sheet_55 rfl (lv_at hl 1 rfl) ?_
          refine lv_iload_n hx hb dX7_sheet_56 rfl (lv_at hl 2 rfl) ?_
          refine lv_if_ge (tgt := 64) hx hb dX7_sheet_57 (by decide) (fun h => absurd h (Int32.not_le.mpr b67)) (fun _ => ?_)
          refine lv_iconst (v := 0) hx hb dX7_sheet_60 (by decide) ?_
          refine lv_goto (tgt := 65) hx hb dX7_sheet_61 (by decide) ?_
          refine zz_istN (WS' := fun f70 => [(mo, .inr (7, [.ref ms, .ref mi, .ref ma, .int 0, .ref mts, .ref mtz, .ref mtn, .ref mh, .ref mhn, .ref mhw, .ref mhz, .ref mhr, .ref mcl, .ref mtp, .int 0, .int 0, .int 0, .int 0, .int 0, .int 0, .int 0, .int 0, .int 0, .int 0, .int 0, .ref mna, .ref mpi, .ref mca, .ref mwa, .int 0, .ref mrd])), (mts, .inl (k_mts, 4, .inl f68)), (mtz, .inl (k_mtz, 4, .inl f70)), (mtn, .inl (k_mtn, 96, .inl tnf))]) X Z161 2 1 rfl rfl (zz_in 3 4 rfl) dX7_sheet_65 (fun _ => rfl) (fun f70 ef71 H162 locs163 Z164 => ?_)
          clear Z161
          refine lv_iconst (v := 0) hx hb dX7_sheet_66 (by decide) ?_
          refine lv_istore (lv' := [(4, .int 0), (0, .ref mo), (1, .int 3), (2, .int sort), (3, .int n)]) hx hb dX7_sheet_67 hl (by decide) rfl (fun ls165 hl166 => ?_)
          clear hl
          have loop : ∀ (k i : Nat) (vc : (Nat → Int32)), i + k = 24 → (True) → ∀ (Hq : Heap) (Lq : List Loc) (lq : Array Slot), zz_S D A s [(mo, .inr (7, [.ref ms, .ref mi, .ref ma, .int 0, .ref mts, .ref mtz, .ref mtn, .ref mh, .ref mhn, .ref mhw, .ref mhz, .ref mhr, .ref mcl, .ref mtp, .int 0, .int 0, .int 0, .int 0, .int 0, .int 0, .int 0, .int 0, .int 0, .int 0, .int 0, .ref mna, .ref mpi, .ref mca, .ref mwa, .int 0, .ref mrd])), (mts, .inl (k_mts, 4, .inl f68)), (mtz, .inl (k_mtz, 4, .inl f70)), (mtn, .inl (k_mtn, 96, .inl vc))] [(k_mts, .int), (k_mtz, .int), (k_mtn, .int)] Hq Lq → lv_has lq 5 [(4, .int (nI i)), (0, .ref mo), (1, .int 3), (2, .int sort), (3, .int n)] → W p l e (headSpec wsX7_sheet { frames := 2, cells := 0, slots := 0, locals := 45 }).room s m (List.toArray [.ref mo, .int 3, .int sort, .int n]) below meth c Hq Lq 0 0 (MQ below (va_Qi (fun (r : Int32) (u : Unit) => r = sp_sheet 3 sort n) (fun u t => zz_B D A ((fun (u : Unit) => []) u) ((fun (u : Unit) => []) u) t) A) (List.toArray [.ref mo, .int 3, .int sort, .int n]) s 0 0 A) (F0 m 69 lq []) := by
            intro k
            induction k with
            | zero =>
                intro i vc hik hinv H167 locs168 ls169 Z170 hl171
                refine lv_iload hx hb dX7_sheet_69 (lv_at hl171 0 rfl) ?_
                refine lv_bipush (v := 24) hx hb dX7_sheet_71 (by decide) ?_
                refine lv_icmp_ge (tgt := 95) hx hb dX7_sheet_73 (by decide) (fun _ => ?_) (fun h => absurd (nI_le (a := 24) (b := i) (by omega) (by omega)) h)
                refine lv_aload_n hx hb dX7_sheet_95 rfl (lv_at hl171 1 rfl) ?_
                refine zz_get X Z170 0 rfl rfl (fun w h => List.mem_cons_of_mem _ (List.mem_append_right _ h)) 5 rfl (zz_m 5 rfl) rfl dX7_sheet_96 ?_
                refine lv_iload_n hx hb dX7_sheet_99 rfl (lv_at hl171 2 rfl) ?_
                refine zz_ild X Z170 2 1 rfl rfl (zz_in 3 4 rfl) dX7_sheet_100 ?_
                refine zz_v (v := 0) (by rw [ef71]; rfl) ?_
                exact zz_iret X hr hlk Z170 () (by simp [sp_sheet, w66, (zz_tm w66.1 b67)]) [] [] (by decide +kernel) rfl rfl dX7_sheet_101
            | succ k ih =>
                intro i vc hik hinv H172 locs173 ls174 Z175 hl176
                refine lv_iload hx hb dX7_sheet_69 (lv_at hl176 0 rfl) ?_
                refine lv_bipush (v := 24) hx hb dX7_sheet_71 (by decide) ?_
                refine lv_icmp_ge (tgt := 95) hx hb dX7_sheet_73 (by decide) (fun h => absurd h (nI_ge (a := i) (b := 24) (by omega) (by omega))) (fun _ => ?_)
                refine lv_aload_n hx hb dX7_sheet_76 rfl (lv_at hl176 1 rfl) ?_
                refine zz_get X Z175 0 rfl rfl (fun w h => List.mem_cons_of_mem _ (List.mem_append_right _ h)) 6 rfl (zz_m 6 rfl) rfl dX7_sheet_77 ?_
                refine lv_bipush (v := 24) hx hb dX7_sheet_80 (by decide) ?_
                refine lv_iload_n hx hb dX7_sheet_82 rfl (lv_at hl176 2 rfl) ?_
                refine lv_imul hx hb dX7_sheet_83 ?_
                refine zz_v (v := 72) (by decide) ?_
                refine lv_iload hx hb dX7_sheet_84 (lv_at hl176 0 rfl) ?_
                refine lv_iadd hx hb dX7_sheet_86 ?_
                refine lv_iconst (v := 0) hx hb dX7_sheet_87 (by decide) ?_
                refine zz_istN (WS' := fun f72 => [(mo, .inr (7, [.ref ms, .ref mi, .ref ma, .int 0, .ref mts, .ref mtz, .ref mtn, .ref mh, .ref mhn, .ref mhw, .ref mhz, .ref mhr, .ref mcl, .ref mtp, .int 0, .int 0, .int 0, .int 0, .int 0, .int 0, .int 0, .int 0, .int 0, .int 0, .int 0, .ref mna, .ref mpi, .ref mca, .ref mwa, .int 0, .ref mrd])), (mts, .inl (k_mts, 4, .inl f68)), (mtz, .inl (k_mtz, 4, .inl f70)), (mtn, .inl (k_mtn, 96, .inl f72))]) X Z175 3 2 rfl rfl (zz_inA 72 i 96 (by omega) (by omega)) dX7_sheet_88 (fun _ => rfl) (fun f72 ef73 H177 locs178 Z179 => ?_)
                clear Z175
                refine lv_iinc (v := nI (i + 1)) (lv' := [(4, .int (nI (i + 1))), (0, .ref mo), (1, .int 3), (2, .int sort), (3, .int n)]) hx hb dX7_sheet_89 hl176 (k := 0) rfl (nI_1 i) (by decide) rfl (fun ls180 hl181 => ?_)
                clear hl176
                refine lv_goto (tgt := 69) hx hb dX7_sheet_92 (by decide) ?_
                exact ih (i + 1) f72 (by omega) trivial _ _ _ Z179 (lv_sub hl181 [0, 1, 2, 3, 4] rfl)
          exact loop 24 0 tnf (by omega) trivial _ _ _ Z164 hl166
        · refine lv_iload_n hx hb dX7_sheet_23 rfl (lv_at hl 3 rfl) ?_
          refine lv_bipush (v := 24) hx hb dX7_sheet_24 (by decide) ?_
          refine lv_icmp_le (tgt := 32) hx hb dX7_sheet_26 (by decide) (fun b74 => ?_) (fun b74 => ?_)
          · refine lv_iload_n hx hb dX7_sheet_32 rfl (lv_at hl 2 rfl) ?_
            refine lv_if_lt (tgt := 44) hx hb dX7_sheet_33 (by decide) (fun h => absurd h b67) (fun _ => ?_)
            refine lv_iload_n hx hb dX7_sheet_36 rfl (lv_at hl 3 rfl) ?_
            refine lv_if_ge (tgt := 44) hx hb dX7_sheet_37 (by decide) (fun b75 => ?_) (fun b75 => ?_)
            · refine lv_aload_n hx hb dX7_sheet_44 rfl (lv_at hl 0 rfl) ?_
              refine zz_get X Z158 0 rfl rfl (fun w h => List.mem_cons_of_mem _ (List.mem_append_right _ h)) 4 rfl (zz_m 4 rfl) rfl dX7_sheet_45 ?_
              refine lv_iload_n hx hb dX7_sheet_48 rfl (lv_at hl 1 rfl) ?_
              refine lv_iload_n hx hb dX7_sheet_49 rfl (lv_at hl 2 rfl) ?_
              refine zz_istN (WS' := fun f76 => [(mo, .inr (7, [.ref ms, .ref mi, .ref ma, .int 0, .ref mts, .ref mtz, .ref mtn, .ref mh, .ref mhn, .ref mhw, .ref mhz, .ref mhr, .ref mcl, .ref mtp, .int 0, .int 0, .int 0, .int 0, .int 0, .int 0, .int 0, .int 0, .int 0, .int 0, .int 0, .ref mna, .ref mpi, .ref mca, .ref mwa, .int 0, .ref mrd])), (mts, .inl (k_mts, 4, .inl f76)), (mtz, .inl (k_mtz, 4, .inl tzf)), (mtn, .inl (k_mtn, 96, .inl tnf))]) X Z158 1 0 rfl rfl (zz_in 3 4 rfl) dX7_sheet_50 (fun _ => rfl) (fun f76 ef77 H182 locs183 Z184 => ?_)
              clear Z158
              refine lv_aload_n hx hb dX7_sheet_51 rfl (lv_at hl 0 rfl) ?_
              refine zz_get X Z184 0 rfl rfl (fun w h => List.mem_cons_of_mem _ (List.mem_append_right _ h)) 5 rfl (zz_m 5 rfl) rfl dX7_sheet_52 ?_
              refine lv_iload_n hx hb dX7_sheet_55 rfl (lv_at hl 1 rfl) ?_
              refine lv_iload_n hx hb dX7_sheet_56 rfl (lv_at hl 2 rfl) ?_
              refine lv_if_ge (tgt := 64) hx hb dX7_sheet_57 (by decide) (fun _ => ?_) (fun h => absurd (Int32.not_lt.mp b67) h)
              refine lv_iload_n hx hb dX7_sheet_64 rfl (lv_at hl 3 rfl) ?_
              refine zz_istN (WS' := fun f78 => [(mo, .inr (7, [.ref ms, .ref mi, .ref ma, .int 0, .ref mts, .ref mtz, .ref mtn, .ref mh, .ref mhn, .ref mhw, .ref mhz, .ref mhr, .ref mcl, .ref mtp, .int 0, .int 0, .int 0, .int 0, .int 0, .int 0, .int 0, .int 0, .int 0, .int 0, .int 0, .ref mna, .ref mpi, .ref mca, .ref mwa, .int 0, .ref mrd])), (mts, .inl (k_mts, 4, .inl f76)), (mtz, .inl (k_mtz, 4, .inl f78)), (mtn, .inl (k_mtn, 96, .inl tnf))]) X Z184 2 1 rfl rfl (zz_in 3 4 rfl) dX7_sheet_65 (fun _ => rfl) (fun f78 ef79 H185 locs186 Z187 => ?_)
              clear Z184
              refine lv_iconst (v := 0) hx hb dX7_sheet_66 (by decide) ?_
              refine lv_istore (lv' := [(4, .int 0), (0, .ref mo), (1, .int 3), (2, .int sort), (3, .int n)]) hx hb dX7_sheet_67 hl (by decide) rfl (fun ls188 hl189 => ?_)
              clear hl
              have loop : ∀ (k i : Nat) (vc : (Nat → Int32)), i + k = 24 → (True) → ∀ (Hq : Heap) (Lq : List Loc) (lq : Array Slot), zz_S D A s [(mo, .inr (7, [.ref ms, .ref mi, .ref ma, .int 0, .ref mts, .ref mtz, .ref mtn, .ref mh, .ref mhn, .ref mhw, .ref mhz, .ref mhr, .ref mcl, .ref mtp, .int 0, .int 0, .int 0, .int 0, .int 0, .int 0, .int 0, .int 0, .int 0, .int 0, .int 0, .ref mna, .ref mpi, .ref mca, .ref mwa, .int 0, .ref mrd])), (mts, .inl (k_mts, 4, .inl f76)), (mtz, .inl (k_mtz, 4, .inl f78)), (mtn, .inl (k_mtn, 96, .inl vc))] [(k_mts, .int), (k_mtz, .int), (k_mtn, .int)] Hq Lq → lv_has lq 5 [(4, .int (nI i)), (0, .ref mo), (1, .int 3), (2, .int sort), (3, .int n)] → W p l e (headSpec wsX7_sheet { frames := 2, cells := 0, slots := 0, locals := 45 }).room s m (List.toArray [.ref mo, .int 3, .int sort, .int n]) below meth c Hq Lq 0 0 (MQ below (va_Qi (fun (r : Int32) (u : Unit) => r = sp_sheet 3 sort n) (fun u t => zz_B D A ((fun (u : Unit) => []) u) ((fun (u : Unit) => []) u) t) A) (List.toArray [.ref mo, .int 3, .int sort, .int n]) s 0 0 A) (F0 m 69 lq []) := by
                intro k
                induction k with
                | zero =>
                    intro i vc hik hinv H190 locs191 ls192 Z193 hl194
                    refine lv_iload hx hb dX7_sheet_69 (lv_at hl194 0 rfl) ?_
                    refine lv_bipush (v := 24) hx hb dX7_sheet_71 (by decide) ?_
                    refine lv_icmp_ge (tgt := 95) hx hb dX7_sheet_73 (by decide) (fun _ => ?_) (fun h => absurd (nI_le (a := 24) (b := i) (by omega) (by omega)) h)
                    refine lv_aload_n hx hb dX7_sheet_95 rfl (lv_at hl194 1 rfl) ?_
                    refine zz_get X Z193 0 rfl rfl (fun w h => List.mem_cons_of_mem _ (List.mem_append_right _ h)) 5 rfl (zz_m 5 rfl) rfl dX7_sheet_96 ?_
                    refine lv_iload_n hx hb dX7_sheet_99 rfl (lv_at hl194 2 rfl) ?_
                    refine zz_ild X Z193 2 1 rfl rfl (zz_in 3 4 rfl) dX7_sheet_100 ?_
                    refine zz_v (v := n) (by rw [ef79]; rfl) ?_
                    exact zz_iret X hr hlk Z193 () (by simp [sp_sheet, w66, (zz_tn b67), (Int32.not_lt.mpr b74), (Int32.not_lt.mpr b75)]) [] [] (by decide +kernel) rfl rfl dX7_sheet_101
                | succ k ih =>
                    intro i vc hik hinv H195 locs196 ls197 Z198 hl199
                    refine lv_iload hx hb dX7_sheet_69 (lv_at hl199 0 rfl) ?_
                    refine lv_bipush (v := 24) hx hb dX7_sheet_71 (by decide) ?_
                    refine lv_icmp_ge (tgt := 95) hx hb dX7_sheet_73 (by decide) (fun h => absurd h (nI_ge (a := i) (b := 24) (by omega) (by omega))) (fun _ => ?_)
                    refine lv_aload_n hx hb dX7_sheet_76 rfl (lv_at hl199 1 rfl) ?_
                    refine zz_get X Z198 0 rfl rfl (fun w h => List.mem_cons_of_mem _ (List.mem_append_right _ h)) 6 rfl (zz_m 6 rfl) rfl dX7_sheet_77 ?_
                    refine lv_bipush (v := 24) hx hb dX7_sheet_80 (by decide) ?_
                    refine lv_iload_n hx hb dX7_sheet_82 rfl (lv_at hl199 2 rfl) ?_
                    refine lv_imul hx hb dX7_sheet_83 ?_
                    refine zz_v (v := 72) (by decide) ?_
                    refine lv_iload hx hb dX7_sheet_84 (lv_at hl199 0 rfl) ?_
                    refine lv_iadd hx hb dX7_sheet_86 ?_
                    refine lv_iconst (v := 0) hx hb dX7_sheet_87 (by decide) ?_
                    refine zz_istN (WS' := fun f80 => [(mo, .inr (7, [.ref ms, .ref mi, .ref ma, .int 0, .ref mts, .ref mtz, .ref mtn, .ref mh, .ref mhn, .ref mhw, .ref mhz, .ref mhr, .ref mcl, .ref mtp, .int 0, .int 0, .int 0, .int 0, .int 0, .int 0, .int 0, .int 0, .int 0, .int 0, .int 0, .ref mna, .ref mpi, .ref mca, .ref mwa, .int 0, .ref mrd])), (mts, .inl (k_mts, 4, .inl f76)), (mtz, .inl (k_mtz, 4, .inl f78)), (mtn, .inl (k_mtn, 96, .inl f80))]) X Z198 3 2 rfl rfl (zz_inA 72 i 96 (by omega) (by omega)) dX7_sheet_88 (fun _ => rfl) (fun f80 ef81 H200 locs201 Z202 => ?_)
                    clear Z198
                    refine lv_iinc (v := nI (i + 1)) (lv' := [(4, .int (nI (i + 1))), (0, .ref mo), (1, .int 3), (2, .int sort), (3, .int n)]) hx hb dX7_sheet_89 hl199 (k := 0) rfl (nI_1 i) (by decide) rfl (fun ls203 hl204 => ?_)
                    clear hl199
                    refine lv_goto (tgt := 69) hx hb dX7_sheet_92 (by decide) ?_
                    exact ih (i + 1) f80 (by omega) trivial _ _ _ Z202 (lv_sub hl204 [0, 1, 2, 3, 4] rfl)
              exact loop 24 0 tnf (by omega) trivial _ _ _ Z187 hl189
            · refine lv_ldcw (v := (-1000000014)) hx hb hown (hts _ (zz_m 3 rfl)) dX7_sheet_40 ?_
              exact zz_iret X hr hlk Z158 () (by simp [sp_sheet, w66, (zz_tn b67), (Int32.not_lt.mpr b74), (Int32.not_le.mp b75)]) [] [] (by decide +kernel) rfl rfl dX7_sheet_43
          · refine lv_ldc (v := (-1000000001)) hx hb hown (hts _ (zz_m 2 rfl)) dX7_sheet_29 ?_
            exact zz_iret X hr hlk Z158 () (by simp [sp_sheet, w66, (zz_tn b67), (Int32.not_le.mp b74)]) [] [] (by decide +kernel) rfl rfl dX7_sheet_31
      · refine zz_v (v := 0) (zz_wiF w66) ?_
        refine lv_if_eq (tgt := 29) hx hb dX7_sheet_16 (by decide) (fun _ => ?_) (fun h => absurd (by decide) h)
        refine lv_ldc (v := (-1000000001)) hx hb hown (hts _ (zz_m 2 rfl)) dX7_sheet_29 ?_
        exact zz_iret X hr hlk Z158 () (by simp [sp_sheet, w66]) [] [] (by decide +kernel) rfl rfl dX7_sheet_31
  · refine zz_v (v := 0) (zz_wiF w4) ?_
    refine lv_if_eq (tgt := 29) hx hb dX7_sheet_4 (by decide) (fun _ => ?_) (fun h => absurd (by decide) h)
    refine lv_ldc (v := (-1000000001)) hx hb hown (hts _ (zz_m 2 rfl)) dX7_sheet_29 ?_
    exact zz_iret X hr hlk Z4 () (by simp [sp_sheet, w4]) [] [] (by decide +kernel) rfl rfl dX7_sheet_31

set_option maxHeartbeats 4000000 in
set_option maxRecDepth 100000 in
theorem c7_best (l : Launch) (D : va_G) (mo : Nat) (ms : Nat) (mi : Nat) (ma : Nat) (mts : Nat) (mtz : Nat) (mtn : Nat) (mh : Nat) (mhn : Nat) (mhw : Nat) (mhz : Nat) (mhr : Nat) (mcl : Nat) (mtp : Nat) (mna : Nat) (mpi : Nat) (mca : Nat) (mwa : Nat) (mrd : Nat) (kms : ClassId) (f : (Nat → Int32)) (kcl : ClassId) (cf : (Nat → Int32)) (n : Int32) (what : Int32) (af_0 : f 0 = 0) (af_1 : f 1 = 0) (af_2 : f 2 = 0) (af_3 : f 3 = 0) (af_4 : f 4 = 0) (af_5 : f 5 = 0) (af_6 : f 6 = 1) (af_7 : f 7 = 0) (af_8 : f 8 = 3) (af_9 : f 9 = 10) (af_10 : f 10 = 0) : zz_MI l yX7_best wsX7_best 3 64 0 0 D [.ref mo, .int n, .int what] [(mo, .inr (7, [.ref ms, .ref mi, .ref ma, .int 0, .ref mts, .ref mtz, .ref mtn, .ref mh, .ref mhn, .ref mhw, .ref mhz, .ref mhr, .ref mcl, .ref mtp, .int 0, .int 0, .int 0, .int 0, .int 0, .int 0, .int 0, .int 0, .int 0, .int 0, .int 0, .ref mna, .ref mpi, .ref mca, .ref mwa, .int 0, .ref mrd])), (ms, .inl (kms, 3047, .inl f)), (mcl, .inl (kcl, 47, .inl cf))] [(kms, .int), (kcl, .int)] (fun (r : Int32) (u : Unit) => r = sp_best n what) (fun (u : Unit) => []) (fun (u : Unit) => []) := by
  intro sz
  refine Met.ofW (cc := cX7_best) (maxL := 9) (ret := (some .int)) (by decide) rfl ?_
  intro p e s m args below meth c s₁ B hml hv
  obtain ⟨rfl, hC⟩ := hv
  have hx := B.exec
  have hb := B.bytes
  have hr := B.returns
  have hts := atoms_spec (ws := wsX7_best) B.pre
  have hown : s.vm.findClass RX7 = some m.cls := findClass_of_methodNamed B.named
  have hlk := B.notSynchronized
  have X : CallFix p m c cX7_best 9 s _ wsX7_best RX7 := ⟨hx, hb, hml, hown, hts⟩
  have Z := zz_enter hC
  generalize va_A [(mo, .inr (7, [.ref ms, .ref mi, .ref ma, .int 0, .ref mts, .ref mtz, .ref mtn, .ref mh, .ref mhn, .ref mhw, .ref mhz, .ref mhr, .ref mcl, .ref mtp, .int 0, .int 0, .int 0, .int 0, .int 0, .int 0, .int 0, .int 0, .int 0, .int 0, .int 0, .ref mna, .ref mpi, .ref mca, .ref mwa, .int 0, .ref mrd])), (ms, .inl (kms, 3047, .inl f)), (mcl, .inl (kcl, 47, .inl cf))] sz = A at Z ⊢
  have hl := lv_entry ([.ref mo, .int n, .int what]) (n := 9) (Nat.le_of_ble_eq_true rfl)
  rw [lg_entry_eq]
  generalize (lg_sl ([.ref mo, .int n, .int what]) ++ List.replicate (9 - (lg_sl ([.ref mo, .int n, .int what])).length) Slot.unset).toArray = ls at hl ⊢
  have hl : lv_has ls 9 [(0, .ref mo), (1, .int n), (2, .int what)] := hl
  refine lv_iload_n hx hb dX7_best_0 rfl (lv_at hl 1 rfl) ?_
  refine lv_i2l (v := Int32.toInt64 n) hx hb dX7_best_1 rfl ?_
  refine lv_lconst (v := 1) hx hb dX7_best_2 (by decide) ?_
  refine zz_vl (v := Int32.toInt64 1) (by decide) ?_
  refine lv_ldc2 (v := 5) hx hb hown (hts _ (zz_m 1 rfl)) dX7_best_3 ?_
  refine zz_vl (v := Int32.toInt64 5) (by decide) ?_
  refine zz_ci (WC := []) (TC := []) (WR := [(mo, .inr (7, [.ref ms, .ref mi, .ref ma, .int 0, .ref mts, .ref mtz, .ref mtn, .ref mh, .ref mhn, .ref mhw, .ref mhz, .ref mhr, .ref mcl, .ref mtp, .int 0, .int 0, .int 0, .int 0, .int 0, .int 0, .int 0, .int 0, .int 0, .int 0, .int 0, .ref mna, .ref mpi, .ref mca, .ref mwa, .int 0, .ref mrd])), (ms, .inl (kms, 3047, .inl f)), (mcl, .inl (kcl, 47, .inl cf))]) (TR := [(kms, .int), (kcl, .int)]) (k := 0) (n := 0) Z [] [0, 1, 2] [] [0, 1] rfl rfl (by decide +kernel) (by decide +kernel) (by decide +kernel) rfl rfl (fun Zc => va_runS (As := [.long (Int32.toInt64 n), .long (Int32.toInt64 1), .long (Int32.toInt64 5)]) (rest := []) X (c_isIn l D n 1 5 s.heap.size) (va_cwS 3 hts gX7_best_X7_isIn rfl rfl rfl zh_X7_isIn ⟨Nat.le_of_ble_eq_true rfl, Nat.le_of_ble_eq_true rfl⟩) (zz_pS Zc) rfl rfl hl.1 rfl (lv_room (Nat.le_of_ble_eq_true rfl)) dX7_best_6 ⟨Nat.le_of_ble_eq_true rfl, Nat.le_of_ble_eq_true rfl⟩) rfl rfl (fun r3 u1 H1 locs2 hw2 Z3 => ?_)
  clear Z
  subst r3
  have Z4 : zz_S D A s [(mo, .inr (7, [.ref ms, .ref mi, .ref ma, .int 0, .ref mts, .ref mtz, .ref mtn, .ref mh, .ref mhn, .ref mhw, .ref mhz, .ref mhr, .ref mcl, .ref mtp, .int 0, .int 0, .int 0, .int 0, .int 0, .int 0, .int 0, .int 0, .int 0, .int 0, .int 0, .ref mna, .ref mpi, .ref mca, .ref mwa, .int 0, .ref mrd])), (ms, .inl (kms, 3047, .inl f)), (mcl, .inl (kcl, 47, .inl cf))] [(kms, .int), (kcl, .int)] H1 locs2 := Z3
  clear Z3
  by_cases w4 : 1 ≤ n ∧ n ≤ 5
  · obtain ⟨j, ⟨hj1, hj⟩, e5⟩ := zz_rng1 5 w4 (by decide)
    rcases (show j = 1 ∨ j = 2 ∨ j = 3 ∨ j = 4 ∨ j = 5 by omega) with rfl | rfl | rfl | rfl | rfl
    · have e5 : n = 1 := e5
      subst e5
      refine zz_v (v := 1) (by decide) ?_
      refine lv_if_eq (tgt := 22) hx hb dX7_best_9 (by decide) (fun h => absurd h (by decide)) (fun _ => ?_)
      refine lv_iload_n hx hb dX7_best_12 rfl (lv_at hl 2 rfl) ?_
      refine lv_i2l (v := Int32.toInt64 what) hx hb dX7_best_13 rfl ?_
      refine lv_lconst (v := 0) hx hb dX7_best_14 (by decide) ?_
      refine zz_vl (v := Int32.toInt64 0) (by decide) ?_
      refine lv_lconst (v := 1) hx hb dX7_best_15 (by decide) ?_
      refine zz_vl (v := Int32.toInt64 1) (by decide) ?_
      refine zz_ci (WC := []) (TC := []) (WR := [(mo, .inr (7, [.ref ms, .ref mi, .ref ma, .int 0, .ref mts, .ref mtz, .ref mtn, .ref mh, .ref mhn, .ref mhw, .ref mhz, .ref mhr, .ref mcl, .ref mtp, .int 0, .int 0, .int 0, .int 0, .int 0, .int 0, .int 0, .int 0, .int 0, .int 0, .int 0, .ref mna, .ref mpi, .ref mca, .ref mwa, .int 0, .ref mrd])), (ms, .inl (kms, 3047, .inl f)), (mcl, .inl (kcl, 47, .inl cf))]) (TR := [(kms, .int), (kcl, .int)]) (k := 0) (n := 0) Z4 [] [0, 1, 2] [] [0, 1] rfl rfl (by decide +kernel) (by decide +kernel) (by decide +kernel) rfl rfl (fun Zc => va_runS (As := [.long (Int32.toInt64 what), .long (Int32.toInt64 0), .long (Int32.toInt64 1)]) (rest := []) X (c_isIn l D what 0 1 H1.size) (va_cwS 3 hts gX7_best_X7_isIn rfl rfl rfl zh_X7_isIn ⟨Nat.le_of_ble_eq_true rfl, Nat.le_of_ble_eq_true rfl⟩) (zz_pS Zc) rfl rfl hl.1 rfl (lv_room (Nat.le_of_ble_eq_true rfl)) dX7_best_16 ⟨Nat.le_of_ble_eq_true rfl, Nat.le_of_ble_eq_true rfl⟩) rfl rfl (fun r8 u6 H5 locs6 hw7 Z7 => ?_)
      clear Z4
      subst r8
      have Z8 : zz_S D A s [(mo, .inr (7, [.ref ms, .ref mi, .ref ma, .int 0, .ref mts, .ref mtz, .ref mtn, .ref mh, .ref mhn, .ref mhw, .ref mhz, .ref mhr, .ref mcl, .ref mtp, .int 0, .int 0, .int 0, .int 0, .int 0, .int 0, .int 0, .int 0, .int 0, .int 0, .int 0, .ref mna, .ref mpi, .ref mca, .ref mwa, .int 0, .ref mrd])), (ms, .inl (kms, 3047, .inl f)), (mcl, .inl (kcl, 47, .inl cf))] [(kms, .int), (kcl, .int)] H5 locs6 := Z7
      clear Z7
      by_cases w9 : 0 ≤ what ∧ what ≤ 1
      · refine zz_v (v := 1) (zz_wiT w9) ?_
        refine lv_if_ne (tgt := 25) hx hb dX7_best_19 (by decide) (fun _ => ?_) (fun h => absurd h (by decide))
        refine lv_iconst (v := 1) hx hb dX7_best_25 (by decide) ?_
        refine lv_istore_n (lv' := [(3, .int 1), (0, .ref mo), (1, .int 1), (2, .int what)]) hx hb dX7_best_26 rfl hl (by decide) rfl (fun ls9 hl10 => ?_)
        clear hl
        refine lv_iconst (v := 1) hx hb dX7_best_27 (by decide) ?_
        refine lv_istore (lv' := [(4, .int 1), (3, .int 1), (0, .ref mo), (1, .int 1), (2, .int what)]) hx hb dX7_best_28 hl10 (by decide) rfl (fun ls11 hl12 => ?_)
        clear hl10
        refine lv_iload hx hb dX7_best_30 (lv_at hl12 0 rfl) ?_
        refine lv_iload_n hx hb dX7_best_32 rfl (lv_at hl12 3 rfl) ?_
        refine lv_icmp_ge (tgt := 46) hx hb dX7_best_33 (by decide) (fun _ => ?_) (fun h => absurd (by decide) h)
        refine lv_aload_n hx hb dX7_best_46 rfl (lv_at hl12 2 rfl) ?_
        refine zz_cv (WC := [(mo, .inr (7, [.ref ms, .ref mi, .ref ma, .int 0, .ref mts, .ref mtz, .ref mtn, .ref mh, .ref mhn, .ref mhw, .ref mhz, .ref mhr, .ref mcl, .ref mtp, .int 0, .int 0, .int 0, .int 0, .int 0, .int 0, .int 0, .int 0, .int 0, .int 0, .int 0, .ref mna, .ref mpi, .ref mca, .ref mwa, .int 0, .ref mrd])), (ms, .inl (kms, 3047, .inl f)), (mcl, .inl (kcl, 47, .inl cf))]) (TC := [(kms, .int), (kcl, .int)]) (WR := []) (TR := []) (k := 0) (n := 0) Z8 [0, 1, 2] [] [0, 1] [] rfl rfl (by decide +kernel) (by decide +kernel) (by decide +kernel) rfl rfl (fun Zc => va_runV (As := []) (rest := []) X (c7_laysBy l D mo ms mi ma mts mtz mtn mh mhn mhw mhz mhr mcl mtp mna mpi mca mwa mrd 0 0 0 0 0 0 0 0 0 0 0 0 0 kms f kcl cf H5.size) (cwV 0 hts gX7_best_X7_laysBy rfl rfl rfl ⟨rfl, zh_X7_laysBy⟩ ⟨Nat.le_of_ble_eq_true rfl, Nat.le_of_ble_eq_true rfl⟩) (zz_pV (ci := 7) Zc 0 rfl rfl) rfl rfl hl12.1 rfl (lv_room (Nat.le_of_ble_eq_true rfl)) dX7_best_47 ⟨Nat.le_of_ble_eq_true rfl, Nat.le_of_ble_eq_true rfl⟩) rfl rfl (fun u10 H13 locs14 hw11 Z15 => ?_)
        clear Z8
        obtain ⟨c913, rfl⟩ : ∃ z, z = u10 := ⟨_, rfl⟩
        try dsimp only at hw11 Z15
        have Z16 : zz_S D A s [(mo, .inr (7, [.ref ms, .ref mi, .ref ma, .int 0, .ref mts, .ref mtz, .ref mtn, .ref mh, .ref mhn, .ref mhw, .ref mhz, .ref mhr, .ref mcl, .ref mtp, .int 0, .int 0, .int 0, .int 0, .int 0, .int 0, .int 0, .int 0, .int 0, .int 0, .int 0, .ref mna, .ref mpi, .ref mca, .ref mwa, .int 0, .ref mrd])), (ms, .inl (kms, 3047, .inl f)), (mcl, .inl (kcl, 47, .inl c913))] [(kms, .int), (kcl, .int)] H13 locs14 := Z15
        clear Z15
        refine lv_iconst (v := (-1)) hx hb dX7_best_50 (by decide) ?_
        refine lv_istore (lv' := [(4, .int (-1)), (3, .int 1), (0, .ref mo), (1, .int 1), (2, .int what)]) hx hb dX7_best_51 hl12 (by decide) rfl (fun ls17 hl18 => ?_)
        clear hl12
        refine lv_iconst (v := 0) hx hb dX7_best_53 (by decide) ?_
        refine lv_istore (lv' := [(5, .int 0), (4, .int (-1)), (3, .int 1), (0, .ref mo), (1, .int 1), (2, .int what)]) hx hb dX7_best_54 hl18 (by decide) rfl (fun ls19 hl20 => ?_)
        clear hl18
        refine lv_iconst (v := 0) hx hb dX7_best_56 (by decide) ?_
        refine lv_istore (lv' := [(6, .int 0), (5, .int 0), (4, .int (-1)), (3, .int 1), (0, .ref mo), (1, .int 1), (2, .int what)]) hx hb dX7_best_57 hl20 (by decide) rfl (fun ls21 hl22 => ?_)
        clear hl20
        have loop : ∀ (k i : Nat) (vf : Nat → Int32) (vb : Int32), i + k = 3 → (vf 0 = 0 ∧ vf 1 = 0 ∧ vf 2 = 0 ∧ vf 3 = 0 ∧ vf 4 = 0 ∧ vf 5 = 0 ∧ vf 6 = 1 ∧ vf 7 = 0 ∧ vf 8 = 3 ∧ vf 9 = 10 ∧ vf 10 = 0 ∧ ((i = 0 ∧ vb = -1) ∨ (0 < i ∧ vb = 0))) → ∀ (Hq : Heap) (Lq : List Loc) (lq : Array Slot), zz_S D A s [(mo, .inr (7, [.ref ms, .ref mi, .ref ma, .int 0, .ref mts, .ref mtz, .ref mtn, .ref mh, .ref mhn, .ref mhw, .ref mhz, .ref mhr, .ref mcl, .ref mtp, .int 0, .int 0, .int 0, .int 0, .int 0, .int 0, .int 0, .int 0, .int 0, .int 0, .int 0, .ref mna, .ref mpi, .ref mca, .ref mwa, .int 0, .ref mrd])), (ms, .inl (kms, 3047, .inl vf)), (mcl, .inl (kcl, 47, .inl c913))] [(kms, .int), (kcl, .int)] Hq Lq → lv_has lq 9 [(6, .int (nI i)), (5, .int 0), (4, .int vb), (3, .int 1), (0, .ref mo), (1, .int 1), (2, .int what)] → W p l e (headSpec wsX7_best { frames := 3, cells := 0, slots := 0, locals := 64 }).room s m (List.toArray [.ref mo, .int 1, .int what]) below meth c Hq Lq 0 0 (MQ below (va_Qi (fun (r : Int32) (u : Unit) => r = sp_best 1 what) (fun u t => zz_B D A ((fun (u : Unit) => []) u) ((fun (u : Unit) => []) u) t) A) (List.toArray [.ref mo, .int 1, .int what]) s 0 0 A) (F0 m 59 lq []) := by
          intro k
          induction k with
          | zero =>
              intro i vf vb hik hinv H23 locs24 ls25 Z26 hl27
              rcases hinv.2.2.2.2.2.2.2.2.2.2.2 with ⟨h0, hv⟩ | ⟨h0, hv⟩
              · omega
              subst hv
              refine lv_iload hx hb dX7_best_59 (lv_at hl27 0 rfl) ?_
              refine lv_iconst (v := 3) hx hb dX7_best_61 (by decide) ?_
              refine lv_iload_n hx hb dX7_best_62 rfl (lv_at hl27 3 rfl) ?_
              refine lv_imul hx hb dX7_best_63 ?_
              refine zz_v (v := 3) (by decide) ?_
              refine lv_icmp_ge (tgt := 155) hx hb dX7_best_64 (by decide) (fun _ => ?_) (fun h => absurd (nI_le (a := 3) (b := i) (by omega) (by omega)) h)
              refine lv_iload_n hx hb dX7_best_155 rfl (lv_at hl27 6 rfl) ?_
              refine lv_if_ne (tgt := 164) hx hb dX7_best_156 (by decide) (fun b14 => ?_) (fun b14 => ?_)
              · refine lv_iload hx hb dX7_best_164 (lv_at hl27 1 rfl) ?_
                exact zz_iret X hr hlk Z26 () (by simp [sp_best, w9]) [] [] (by decide +kernel) rfl rfl dX7_best_166
              · refine lv_iload hx hb dX7_best_159 (lv_at hl27 2 rfl) ?_
                refine lv_goto (tgt := 166) hx hb dX7_best_161 (by decide) ?_
                exact zz_iret X hr hlk Z26 () (by simp [sp_best, w9]) [] [] (by decide +kernel) rfl rfl dX7_best_166
          | succ k ih =>
              intro i vf vb hik hinv H28 locs29 ls30 Z31 hl32
              rcases hinv.2.2.2.2.2.2.2.2.2.2.2 with ⟨h0, hv⟩ | ⟨h0, hv⟩
              · subst hv
                refine lv_iload hx hb dX7_best_59 (lv_at hl32 0 rfl) ?_
                refine lv_iconst (v := 3) hx hb dX7_best_61 (by decide) ?_
                refine lv_iload_n hx hb dX7_best_62 rfl (lv_at hl32 3 rfl) ?_
                refine lv_imul hx hb dX7_best_63 ?_
                refine zz_v (v := 3) (by decide) ?_
                refine lv_icmp_ge (tgt := 155) hx hb dX7_best_64 (by decide) (fun h => absurd h (nI_ge (a := i) (b := 3) (by omega) (by omega))) (fun _ => ?_)
                refine lv_iload_n hx hb dX7_best_67 rfl (lv_at hl32 3 rfl) ?_
                refine lv_istore (lv' := [(7, .int 1), (6, .int (nI i)), (5, .int 0), (4, .int (-1)), (3, .int 1), (0, .ref mo), (1, .int 1), (2, .int what)]) hx hb dX7_best_68 hl32 (by decide) rfl (fun ls33 hl34 => ?_)
                clear hl32
                have inner : ∀ (t : Nat), t ≤ 5 → ∀ (vf : Nat → Int32) (v2 v5 v6 v7 : Int32), vf 0 = 0 ∧ vf 1 = 0 ∧ vf 2 = v2 ∧ vf 3 = 0 ∧ vf 4 = 0 ∧ vf 5 = v5 ∧ vf 6 = v6 ∧ vf 7 = v7 ∧ vf 8 = 3 ∧ vf 9 = 10 ∧ vf 10 = 0 → ∀ (Hq : Heap) (Lq : List Loc) (lq : Array Slot), zz_S D A s [(mo, .inr (7, [.ref ms, .ref mi, .ref ma, .int 0, .ref mts, .ref mtz, .ref mtn, .ref mh, .ref mhn, .ref mhw, .ref mhz, .ref mhr, .ref mcl, .ref mtp, .int 0, .int 0, .int 0, .int 0, .int 0, .int 0, .int 0, .int 0, .int 0, .int 0, .int 0, .ref mna, .ref mpi, .ref mca, .ref mwa, .int 0, .ref mrd])), (ms, .inl (kms, 3047, .inl vf)), (mcl, .inl (kcl, 47, .inl c913))] [(kms, .int), (kcl, .int)] Hq Lq → lv_has lq 9 [(7, .int (nI (zz_pw t))), (6, .int (nI i)), (5, .int 0), (4, .int (-1)), (3, .int 1), (0, .ref mo), (1, .int 1), (2, .int what)] → W p l e (headSpec wsX7_best { frames := 3, cells := 0, slots := 0, locals := 64 }).room s m (List.toArray [.ref mo, .int 1, .int what]) below meth c Hq Lq 0 0 (MQ below (va_Qi (fun (r : Int32) (u : Unit) => r = sp_best 1 what) (fun u t => zz_B D A ((fun (u : Unit) => []) u) ((fun (u : Unit) => []) u) t) A) (List.toArray [.ref mo, .int 1, .int what]) s 0 0 A) (F0 m 70 lq []) := by
                  intro t
                  induction t with
                  | zero =>
                      intro ht vf v2 v5 v6 v7 hin H35 locs36 ls37 Z38 hl39
                      have hl40 : lv_has ls37 9 [(7, .int 0), (6, .int (nI i)), (5, .int 0), (4, .int (-1)), (3, .int 1), (0, .ref mo), (1, .int 1), (2, .int what)] := hl39
                      clear hl39
                      refine lv_iload hx hb dX7_best_70 (lv_at hl40 0 rfl) ?_
                      refine lv_if_le (tgt := 117) hx hb dX7_best_72 (by decide) (fun _ => ?_) (fun h => absurd (by decide) h)
                      refine lv_aload_n hx hb dX7_best_117 rfl (lv_at hl40 5 rfl) ?_
                      refine zz_get X Z38 0 rfl rfl (fun w h => List.mem_cons_of_mem _ (List.mem_append_right _ h)) 0 rfl (zz_m 3 rfl) rfl dX7_best_118 ?_
                      refine lv_iconst (v := 4) hx hb dX7_best_121 (by decide) ?_
                      refine zz_ild X Z38 1 0 rfl rfl (zz_in 4 3047 rfl) dX7_best_122 ?_
                      refine zz_v (v := 0) hin.2.2.2.2.1 ?_
                      refine lv_istore (lv' := [(7, .int 0), (6, .int (nI i)), (5, .int 0), (4, .int (-1)), (3, .int 1), (0, .ref mo), (1, .int 1), (2, .int what)]) hx hb dX7_best_123 hl40 (by decide) rfl (fun ls41 hl42 => ?_)
                      clear hl40
                      refine lv_aload_n hx hb dX7_best_125 rfl (lv_at hl42 5 rfl) ?_
                      refine zz_cv (WC := [(mo, .inr (7, [.ref ms, .ref mi, .ref ma, .int 0, .ref mts, .ref mtz, .ref mtn, .ref mh, .ref mhn, .ref mhw, .ref mhz, .ref mhr, .ref mcl, .ref mtp, .int 0, .int 0, .int 0, .int 0, .int 0, .int 0, .int 0, .int 0, .int 0, .int 0, .int 0, .ref mna, .ref mpi, .ref mca, .ref mwa, .int 0, .ref mrd])), (ms, .inl (kms, 3047, .inl vf)), (mcl, .inl (kcl, 47, .inl c913))]) (TC := [(kms, .int), (kcl, .int)]) (WR := []) (TR := []) (k := 0) (n := 0) Z38 [0, 1, 2] [] [0, 1] [] rfl rfl (by decide +kernel) (by decide +kernel) (by decide +kernel) rfl rfl (fun Zc => va_runV (As := []) (rest := []) X (c7_laysBack l D mo ms mi ma mts mtz mtn mh mhn mhw mhz mhr mcl mtp mna mpi mca mwa mrd 0 0 0 0 0 0 0 0 0 0 0 0 0 kms vf kcl c913 H35.size) (cwV 0 hts gX7_best_X7_laysBack rfl rfl rfl ⟨rfl, zh_X7_laysBack⟩ ⟨Nat.le_of_ble_eq_true rfl, Nat.le_of_ble_eq_true rfl⟩) (zz_pV (ci := 7) Zc 0 rfl rfl) rfl rfl hl42.1 rfl (lv_room (Nat.le_of_ble_eq_true rfl)) dX7_best_126 ⟨Nat.le_of_ble_eq_true rfl, Nat.le_of_ble_eq_true rfl⟩) rfl rfl (fun u15 H43 locs44 hw16 Z45 => ?_)
                      clear Z38
                      obtain ⟨f918, rfl⟩ : ∃ z, z = u15 := ⟨_, rfl⟩
                      try dsimp only at hw16 Z45
                      have Z46 : zz_S D A s [(mo, .inr (7, [.ref ms, .ref mi, .ref ma, .int 0, .ref mts, .ref mtz, .ref mtn, .ref mh, .ref mhn, .ref mhw, .ref mhz, .ref mhr, .ref mcl, .ref mtp, .int 0, .int 0, .int 0, .int 0, .int 0, .int 0, .int 0, .int 0, .int 0, .int 0, .int 0, .ref mna, .ref mpi, .ref mca, .ref mwa, .int 0, .ref mrd])), (ms, .inl (kms, 3047, .inl f918)), (mcl, .inl (kcl, 47, .inl c913))] [(kms, .int), (kcl, .int)] H43 locs44 := Z45
                      clear Z45
                      have p19 : f918 0 = 0 := (hw16 0 (by decide)).trans ((hw11 0 (by decide)).trans af_0)
                      have p20 : f918 1 = 0 := (hw16 1 (by decide)).trans ((hw11 1 (by decide)).trans af_1)
                      have p21 : f918 2 = 0 := (hw16 2 (by decide)).trans ((hw11 2 (by decide)).trans af_2)
                      have p22 : f918 3 = 0 := (hw16 3 (by decide)).trans ((hw11 3 (by decide)).trans af_3)
                      have p23 : f918 4 = 0 := (hw16 4 (by decide)).trans ((hw11 4 (by decide)).trans af_4)
                      have p24 : f918 5 = 0 := (hw16 5 (by decide)).trans ((hw11 5 (by decide)).trans af_5)
                      have p25 : f918 6 = 1 := (hw16 6 (by decide)).trans ((hw11 6 (by decide)).trans af_6)
                      have p26 : f918 7 = 0 := (hw16 7 (by decide)).trans ((hw11 7 (by decide)).trans af_7)
                      have p27 : f918 8 = 3 := (hw16 8 (by decide)).trans ((hw11 8 (by decide)).trans af_8)
                      have p28 : f918 9 = 10 := (hw16 9 (by decide)).trans ((hw11 9 (by decide)).trans af_9)
                      have p29 : f918 10 = 0 := (hw16 10 (by decide)).trans ((hw11 10 (by decide)).trans af_10)
                      refine lv_iload hx hb dX7_best_129 (lv_at hl42 3 rfl) ?_
                      refine lv_if_lt (tgt := 141) hx hb dX7_best_131 (by decide) (fun _ => ?_) (fun h => absurd (by decide) h)
                      refine lv_iload hx hb dX7_best_141 (lv_at hl42 1 rfl) ?_
                      refine lv_istore (lv' := [(4, .int (nI i)), (7, .int 0), (6, .int (nI i)), (5, .int 0), (3, .int 1), (0, .ref mo), (1, .int 1), (2, .int what)]) hx hb dX7_best_143 hl42 (by decide) rfl (fun ls47 hl48 => ?_)
                      clear hl42
                      refine lv_iload hx hb dX7_best_145 (lv_at hl48 1 rfl) ?_
                      refine lv_istore (lv' := [(5, .int 0), (4, .int (nI i)), (7, .int 0), (6, .int (nI i)), (3, .int 1), (0, .ref mo), (1, .int 1), (2, .int what)]) hx hb dX7_best_147 hl48 (by decide) rfl (fun ls49 hl50 => ?_)
                      clear hl48
                      refine lv_iinc (v := nI (i + 1)) (lv' := [(6, .int (nI (i + 1))), (5, .int 0), (4, .int (nI i)), (7, .int 0), (3, .int 1), (0, .ref mo), (1, .int 1), (2, .int what)]) hx hb dX7_best_149 hl50 (k := 3) rfl (nI_1 i) (by decide) rfl (fun ls51 hl52 => ?_)
                      clear hl50
                      refine lv_goto (tgt := 59) hx hb dX7_best_152 (by decide) ?_
                      exact ih (i + 1) f918 (nI i) (by omega) ⟨p19, p20, p21, p22, p23, p24, p25, p26, p27, p28, p29, (Or.inr ⟨by omega, by rw [h0]; rfl⟩)⟩ _ _ _ Z46 (lv_sub hl52 [0, 1, 2, 4, 5, 6, 7] rfl)
                  | succ t iht =>
                      intro ht vf v2 v5 v6 v7 hin H53 locs54 ls55 Z56 hl57
                      have hl58 : lv_has ls55 9 [(7, .int (nI (zz_pw (t + 1)))), (6, .int (nI i)), (5, .int 0), (4, .int (-1)), (3, .int 1), (0, .ref mo), (1, .int 1), (2, .int what)] := hl57
                      clear hl57
                      refine lv_iload hx hb dX7_best_70 (lv_at hl58 0 rfl) ?_
                      refine lv_if_le (tgt := 117) hx hb dX7_best_72 (by decide) (fun h => absurd h (nI_nle (zz_pwP t (by omega)).1 (zz_pwP t (by omega)).2)) (fun _ => ?_)
                      refine lv_iload hx hb dX7_best_75 (lv_at hl58 1 rfl) ?_
                      refine lv_iload hx hb dX7_best_77 (lv_at hl58 0 rfl) ?_
                      refine lv_idiv hx hb dX7_best_79 (nI_ne0 (zz_pwP t (by omega)).1 (zz_pwP t (by omega)).2) ?_
                      refine lv_iconst (v := 3) hx hb dX7_best_80 (by decide) ?_
                      refine lv_irem hx hb dX7_best_81 (by decide) ?_
                      refine lv_topi (fun y30 ey31 => ?_)
                      refine lv_istore (lv' := [(8, .int y30), (7, .int (nI (zz_pw (t + 1)))), (6, .int (nI i)), (5, .int 0), (4, .int (-1)), (3, .int 1), (0, .ref mo), (1, .int 1), (2, .int what)]) hx hb dX7_best_82 hl58 (by decide) rfl (fun ls59 hl60 => ?_)
                      clear hl58
                      refine lv_aload_n hx hb dX7_best_84 rfl (lv_at hl60 6 rfl) ?_
                      refine lv_iload hx hb dX7_best_85 (lv_at hl60 0 rfl) ?_
                      refine lv_if_ne (tgt := 94) hx hb dX7_best_87 (by decide) (fun b32 => ?_) (fun b32 => ?_)
                      · refine lv_iload hx hb dX7_best_94 (lv_at hl60 0 rfl) ?_
                        refine lv_iconst (v := 1) hx hb dX7_best_96 (by decide) ?_
                        refine lv_icmp_ne (tgt := 104) hx hb dX7_best_97 (by decide) (fun b33 => ?_) (fun b33 => ?_)
                        · refine lv_iconst (v := 1) hx hb dX7_best_104 (by decide) ?_
                          refine zz_cv (WC := [(mo, .inr (7, [.ref ms, .ref mi, .ref ma, .int 0, .ref mts, .ref mtz, .ref mtn, .ref mh, .ref mhn, .ref mhw, .ref mhz, .ref mhr, .ref mcl, .ref mtp, .int 0, .int 0, .int 0, .int 0, .int 0, .int 0, .int 0, .int 0, .int 0, .int 0, .int 0, .ref mna, .ref mpi, .ref mca, .ref mwa, .int 0, .ref mrd])), (ms, .inl (kms, 3047, .inl vf))]) (TC := [(kms, .int)]) (WR := [(mcl, .inl (kcl, 47, .inl c913))]) (TR := [(kcl, .int)]) (k := 0) (n := 0) Z56 [0, 1] [2] [0] [1] rfl rfl (by decide +kernel) (by decide +kernel) (by decide +kernel) rfl rfl (fun Zc => va_runV (As := [.int 1]) (rest := []) X (c7_goesOnBy l D mo ms mi ma mts mtz mtn mh mhn mhw mhz mhr mcl mtp mna mpi mca mwa mrd 0 0 0 0 0 0 0 0 0 0 0 0 0 kms vf 0 v2 0 0 v5 v6 v7 3 10 0 1 hin.1 hin.2.1 hin.2.2.1 hin.2.2.2.1 hin.2.2.2.2.1 hin.2.2.2.2.2.1 hin.2.2.2.2.2.2.1 hin.2.2.2.2.2.2.2.1 hin.2.2.2.2.2.2.2.2.1 hin.2.2.2.2.2.2.2.2.2.1 hin.2.2.2.2.2.2.2.2.2.2 H53.size) (cwV 1 hts gX7_best_X7_goesOnBy rfl rfl rfl ⟨rfl, zh_X7_goesOnBy⟩ ⟨Nat.le_of_ble_eq_true rfl, Nat.le_of_ble_eq_true rfl⟩) (zz_pV (ci := 7) Zc 0 rfl rfl) rfl rfl hl60.1 rfl (lv_room (Nat.le_of_ble_eq_true rfl)) dX7_best_105 ⟨Nat.le_of_ble_eq_true rfl, Nat.le_of_ble_eq_true rfl⟩) rfl rfl (fun u34 H61 locs62 hw35 Z63 => ?_)
                          clear Z56
                          obtain ⟨f937, F938, T939, Z940⟩ := u34
                          try dsimp only at hw35 Z63
                          obtain ⟨⟨p41, p42, p43, p44, p45, p46, p47, p48, p49, p50, p51⟩, hx52⟩ := hw35
                          obtain ⟨rfl, rfl, rfl⟩ := hx52
                          have Z64 : zz_S D A s [(mcl, .inl (kcl, 47, .inl c913)), (mo, .inr (7, [.ref ms, .ref mi, .ref ma, .int 0, .ref mts, .ref mtz, .ref mtn, .ref mh, .ref mhn, .ref mhw, .ref mhz, .ref mhr, .ref mcl, .ref mtp, .int 0, .int 0, .int 0, .int 0, .int 0, .int 0, .int 0, .int 0, .int 0, .int 0, .int 0, .ref mna, .ref mpi, .ref mca, .ref mwa, .int 0, .ref mrd])), (ms, .inl (kms, 3047, .inl f937))] [(kcl, .int), (kms, .int)] H61 locs62 := Z63
                          clear Z63
                          refine lv_iload hx hb dX7_best_108 (lv_at hl60 1 rfl) ?_
                          refine lv_iconst (v := 3) hx hb dX7_best_110 (by decide) ?_
                          refine lv_idiv hx hb dX7_best_111 (by decide) ?_
                          refine zz_v (v := nI (zz_pw t)) (zz_pw3 t (by omega)) ?_
                          refine lv_istore (lv' := [(7, .int (nI (zz_pw t))), (8, .int y30), (6, .int (nI i)), (5, .int 0), (4, .int (-1)), (3, .int 1), (0, .ref mo), (1, .int 1), (2, .int what)]) hx hb dX7_best_112 hl60 (by decide) rfl (fun ls65 hl66 => ?_)
                          clear hl60
                          refine lv_goto (tgt := 70) hx hb dX7_best_114 (by decide) ?_
                          have Z67 := Z64.sub (WS' := [(mo, .inr (7, [.ref ms, .ref mi, .ref ma, .int 0, .ref mts, .ref mtz, .ref mtn, .ref mh, .ref mhn, .ref mhw, .ref mhz, .ref mhr, .ref mcl, .ref mtp, .int 0, .int 0, .int 0, .int 0, .int 0, .int 0, .int 0, .int 0, .int 0, .int 0, .int 0, .ref mna, .ref mpi, .ref mca, .ref mwa, .int 0, .ref mrd])), (ms, .inl (kms, 3047, .inl f937)), (mcl, .inl (kcl, 47, .inl c913))]) (TYS' := [(kms, .int), (kcl, .int)]) [1, 2, 0] [1, 0] (by decide +kernel) rfl rfl
                          clear Z64
                          exact iht (by omega) f937 (v2 + 1) (zz_bT v5 v6 10) (zz_bZ v6 10) (zz_mF v7 1 v6 3 10) ⟨p41, p42, p43, p44, p45, p46, p47, p48, p49, p50, p51⟩ _ _ _ Z67 (lv_sub hl66 [0, 2, 3, 4, 5, 6, 7, 8] rfl)
                        · refine lv_iconst (v := (-1)) hx hb dX7_best_100 (by decide) ?_
                          refine lv_goto (tgt := 105) hx hb dX7_best_101 (by decide) ?_
                          refine zz_cv (WC := [(mo, .inr (7, [.ref ms, .ref mi, .ref ma, .int 0, .ref mts, .ref mtz, .ref mtn, .ref mh, .ref mhn, .ref mhw, .ref mhz, .ref mhr, .ref mcl, .ref mtp, .int 0, .int 0, .int 0, .int 0, .int 0, .int 0, .int 0, .int 0, .int 0, .int 0, .int 0, .ref mna, .ref mpi, .ref mca, .ref mwa, .int 0, .ref mrd])), (ms, .inl (kms, 3047, .inl vf))]) (TC := [(kms, .int)]) (WR := [(mcl, .inl (kcl, 47, .inl c913))]) (TR := [(kcl, .int)]) (k := 0) (n := 0) Z56 [0, 1] [2] [0] [1] rfl rfl (by decide +kernel) (by decide +kernel) (by decide +kernel) rfl rfl (fun Zc => va_runV (As := [.int (-1)]) (rest := []) X (c7_goesOnBy l D mo ms mi ma mts mtz mtn mh mhn mhw mhz mhr mcl mtp mna mpi mca mwa mrd 0 0 0 0 0 0 0 0 0 0 0 0 0 kms vf 0 v2 0 0 v5 v6 v7 3 10 0 (-1) hin.1 hin.2.1 hin.2.2.1 hin.2.2.2.1 hin.2.2.2.2.1 hin.2.2.2.2.2.1 hin.2.2.2.2.2.2.1 hin.2.2.2.2.2.2.2.1 hin.2.2.2.2.2.2.2.2.1 hin.2.2.2.2.2.2.2.2.2.1 hin.2.2.2.2.2.2.2.2.2.2 H53.size) (cwV 1 hts gX7_best_X7_goesOnBy rfl rfl rfl ⟨rfl, zh_X7_goesOnBy⟩ ⟨Nat.le_of_ble_eq_true rfl, Nat.le_of_ble_eq_true rfl⟩) (zz_pV (ci := 7) Zc 0 rfl rfl) rfl rfl hl60.1 rfl (lv_room (Nat.le_of_ble_eq_true rfl)) dX7_best_105 ⟨Nat.le_of_ble_eq_true rfl, Nat.le_of_ble_eq_true rfl⟩) rfl rfl (fun u53 H68 locs69 hw54 Z70 => ?_)
                          clear Z56
                          obtain ⟨f956, F957, T958, Z959⟩ := u53
                          try dsimp only at hw54 Z70
                          obtain ⟨⟨p60, p61, p62, p63, p64, p65, p66, p67, p68, p69, p70⟩, hx71⟩ := hw54
                          obtain ⟨rfl, rfl, rfl⟩ := hx71
                          have Z71 : zz_S D A s [(mcl, .inl (kcl, 47, .inl c913)), (mo, .inr (7, [.ref ms, .ref mi, .ref ma, .int 0, .ref mts, .ref mtz, .ref mtn, .ref mh, .ref mhn, .ref mhw, .ref mhz, .ref mhr, .ref mcl, .ref mtp, .int 0, .int 0, .int 0, .int 0, .int 0, .int 0, .int 0, .int 0, .int 0, .int 0, .int 0, .ref mna, .ref mpi, .ref mca, .ref mwa, .int 0, .ref mrd])), (ms, .inl (kms, 3047, .inl f956))] [(kcl, .int), (kms, .int)] H68 locs69 := Z70
                          clear Z70
                          refine lv_iload hx hb dX7_best_108 (lv_at hl60 1 rfl) ?_
                          refine lv_iconst (v := 3) hx hb dX7_best_110 (by decide) ?_
                          refine lv_idiv hx hb dX7_best_111 (by decide) ?_
                          refine zz_v (v := nI (zz_pw t)) (zz_pw3 t (by omega)) ?_
                          refine lv_istore (lv' := [(7, .int (nI (zz_pw t))), (8, .int y30), (6, .int (nI i)), (5, .int 0), (4, .int (-1)), (3, .int 1), (0, .ref mo), (1, .int 1), (2, .int what)]) hx hb dX7_best_112 hl60 (by decide) rfl (fun ls72 hl73 => ?_)
                          clear hl60
                          refine lv_goto (tgt := 70) hx hb dX7_best_114 (by decide) ?_
                          have Z74 := Z71.sub (WS' := [(mo, .inr (7, [.ref ms, .ref mi, .ref ma, .int 0, .ref mts, .ref mtz, .ref mtn, .ref mh, .ref mhn, .ref mhw, .ref mhz, .ref mhr, .ref mcl, .ref mtp, .int 0, .int 0, .int 0, .int 0, .int 0, .int 0, .int 0, .int 0, .int 0, .int 0, .int 0, .ref mna, .ref mpi, .ref mca, .ref mwa, .int 0, .ref mrd])), (ms, .inl (kms, 3047, .inl f956)), (mcl, .inl (kcl, 47, .inl c913))]) (TYS' := [(kms, .int), (kcl, .int)]) [1, 2, 0] [1, 0] (by decide +kernel) rfl rfl
                          clear Z71
                          exact iht (by omega) f956 (v2 + 1) (zz_bT v5 v6 10) (zz_bZ v6 10) (zz_mF v7 (-1) v6 3 10) ⟨p60, p61, p62, p63, p64, p65, p66, p67, p68, p69, p70⟩ _ _ _ Z74 (lv_sub hl73 [0, 2, 3, 4, 5, 6, 7, 8] rfl)
                      · refine lv_iconst (v := 0) hx hb dX7_best_90 (by decide) ?_
                        refine lv_goto (tgt := 105) hx hb dX7_best_91 (by decide) ?_
                        refine zz_cv (WC := [(mo, .inr (7, [.ref ms, .ref mi, .ref ma, .int 0, .ref mts, .ref mtz, .ref mtn, .ref mh, .ref mhn, .ref mhw, .ref mhz, .ref mhr, .ref mcl, .ref mtp, .int 0, .int 0, .int 0, .int 0, .int 0, .int 0, .int 0, .int 0, .int 0, .int 0, .int 0, .ref mna, .ref mpi, .ref mca, .ref mwa, .int 0, .ref mrd])), (ms, .inl (kms, 3047, .inl vf))]) (TC := [(kms, .int)]) (WR := [(mcl, .inl (kcl, 47, .inl c913))]) (TR := [(kcl, .int)]) (k := 0) (n := 0) Z56 [0, 1] [2] [0] [1] rfl rfl (by decide +kernel) (by decide +kernel) (by decide +kernel) rfl rfl (fun Zc => va_runV (As := [.int 0]) (rest := []) X (c7_goesOnBy l D mo ms mi ma mts mtz mtn mh mhn mhw mhz mhr mcl mtp mna mpi mca mwa mrd 0 0 0 0 0 0 0 0 0 0 0 0 0 kms vf 0 v2 0 0 v5 v6 v7 3 10 0 0 hin.1 hin.2.1 hin.2.2.1 hin.2.2.2.1 hin.2.2.2.2.1 hin.2.2.2.2.2.1 hin.2.2.2.2.2.2.1 hin.2.2.2.2.2.2.2.1 hin.2.2.2.2.2.2.2.2.1 hin.2.2.2.2.2.2.2.2.2.1 hin.2.2.2.2.2.2.2.2.2.2 H53.size) (cwV 1 hts gX7_best_X7_goesOnBy rfl rfl rfl ⟨rfl, zh_X7_goesOnBy⟩ ⟨Nat.le_of_ble_eq_true rfl, Nat.le_of_ble_eq_true rfl⟩) (zz_pV (ci := 7) Zc 0 rfl rfl) rfl rfl hl60.1 rfl (lv_room (Nat.le_of_ble_eq_true rfl)) dX7_best_105 ⟨Nat.le_of_ble_eq_true rfl, Nat.le_of_ble_eq_true rfl⟩) rfl rfl (fun u72 H75 locs76 hw73 Z77 => ?_)
                        clear Z56
                        obtain ⟨f975, F976, T977, Z978⟩ := u72
                        try dsimp only at hw73 Z77
                        obtain ⟨⟨p79, p80, p81, p82, p83, p84, p85, p86, p87, p88, p89⟩, hx90⟩ := hw73
                        obtain ⟨rfl, rfl, rfl⟩ := hx90
                        have Z78 : zz_S D A s [(mcl, .inl (kcl, 47, .inl c913)), (mo, .inr (7, [.ref ms, .ref mi, .ref ma, .int 0, .ref mts, .ref mtz, .ref mtn, .ref mh, .ref mhn, .ref mhw, .ref mhz, .ref mhr, .ref mcl, .ref mtp, .int 0, .int 0, .int 0, .int 0, .int 0, .int 0, .int 0, .int 0, .int 0, .int 0, .int 0, .ref mna, .ref mpi, .ref mca, .ref mwa, .int 0, .ref mrd])), (ms, .inl (kms, 3047, .inl f975))] [(kcl, .int), (kms, .int)] H75 locs76 := Z77
                        clear Z77
                        refine lv_iload hx hb dX7_best_108 (lv_at hl60 1 rfl) ?_
                        refine lv_iconst (v := 3) hx hb dX7_best_110 (by decide) ?_
                        refine lv_idiv hx hb dX7_best_111 (by decide) ?_
                        refine zz_v (v := nI (zz_pw t)) (zz_pw3 t (by omega)) ?_
                        refine lv_istore (lv' := [(7, .int (nI (zz_pw t))), (8, .int y30), (6, .int (nI i)), (5, .int 0), (4, .int (-1)), (3, .int 1), (0, .ref mo), (1, .int 1), (2, .int what)]) hx hb dX7_best_112 hl60 (by decide) rfl (fun ls79 hl80 => ?_)
                        clear hl60
                        refine lv_goto (tgt := 70) hx hb dX7_best_114 (by decide) ?_
                        have Z81 := Z78.sub (WS' := [(mo, .inr (7, [.ref ms, .ref mi, .ref ma, .int 0, .ref mts, .ref mtz, .ref mtn, .ref mh, .ref mhn, .ref mhw, .ref mhz, .ref mhr, .ref mcl, .ref mtp, .int 0, .int 0, .int 0, .int 0, .int 0, .int 0, .int 0, .int 0, .int 0, .int 0, .int 0, .ref mna, .ref mpi, .ref mca, .ref mwa, .int 0, .ref mrd])), (ms, .inl (kms, 3047, .inl f975)), (mcl, .inl (kcl, 47, .inl c913))]) (TYS' := [(kms, .int), (kcl, .int)]) [1, 2, 0] [1, 0] (by decide +kernel) rfl rfl
                        clear Z78
                        exact iht (by omega) f975 (v2 + 1) (zz_bT v5 v6 10) (zz_bZ v6 10) (zz_mF v7 0 v6 3 10) ⟨p79, p80, p81, p82, p83, p84, p85, p86, p87, p88, p89⟩ _ _ _ Z81 (lv_sub hl80 [0, 2, 3, 4, 5, 6, 7, 8] rfl)
                exact inner 1 (by decide) vf 0 0 1 0 ⟨hinv.1, hinv.2.1, hinv.2.2.1, hinv.2.2.2.1, hinv.2.2.2.2.1, hinv.2.2.2.2.2.1, hinv.2.2.2.2.2.2.1, hinv.2.2.2.2.2.2.2.1, hinv.2.2.2.2.2.2.2.2.1, hinv.2.2.2.2.2.2.2.2.2.1, hinv.2.2.2.2.2.2.2.2.2.2.1⟩ _ _ _ Z31 hl34
              · subst hv
                refine lv_iload hx hb dX7_best_59 (lv_at hl32 0 rfl) ?_
                refine lv_iconst (v := 3) hx hb dX7_best_61 (by decide) ?_
                refine lv_iload_n hx hb dX7_best_62 rfl (lv_at hl32 3 rfl) ?_
                refine lv_imul hx hb dX7_best_63 ?_
                refine zz_v (v := 3) (by decide) ?_
                refine lv_icmp_ge (tgt := 155) hx hb dX7_best_64 (by decide) (fun h => absurd h (nI_ge (a := i) (b := 3) (by omega) (by omega))) (fun _ => ?_)
                refine lv_iload_n hx hb dX7_best_67 rfl (lv_at hl32 3 rfl) ?_
                refine lv_istore (lv' := [(7, .int 1), (6, .int (nI i)), (5, .int 0), (4, .int 0), (3, .int 1), (0, .ref mo), (1, .int 1), (2, .int what)]) hx hb dX7_best_68 hl32 (by decide) rfl (fun ls82 hl83 => ?_)
                clear hl32
                have inner : ∀ (t : Nat), t ≤ 5 → ∀ (vf : Nat → Int32) (v2 v5 v6 v7 : Int32), vf 0 = 0 ∧ vf 1 = 0 ∧ vf 2 = v2 ∧ vf 3 = 0 ∧ vf 4 = 0 ∧ vf 5 = v5 ∧ vf 6 = v6 ∧ vf 7 = v7 ∧ vf 8 = 3 ∧ vf 9 = 10 ∧ vf 10 = 0 → ∀ (Hq : Heap) (Lq : List Loc) (lq : Array Slot), zz_S D A s [(mo, .inr (7, [.ref ms, .ref mi, .ref ma, .int 0, .ref mts, .ref mtz, .ref mtn, .ref mh, .ref mhn, .ref mhw, .ref mhz, .ref mhr, .ref mcl, .ref mtp, .int 0, .int 0, .int 0, .int 0, .int 0, .int 0, .int 0, .int 0, .int 0, .int 0, .int 0, .ref mna, .ref mpi, .ref mca, .ref mwa, .int 0, .ref mrd])), (ms, .inl (kms, 3047, .inl vf)), (mcl, .inl (kcl, 47, .inl c913))] [(kms, .int), (kcl, .int)] Hq Lq → lv_has lq 9 [(7, .int (nI (zz_pw t))), (6, .int (nI i)), (5, .int 0), (4, .int 0), (3, .int 1), (0, .ref mo), (1, .int 1), (2, .int what)] → W p l e (headSpec wsX7_best { frames := 3, cells := 0, slots := 0, locals := 64 }).room s m (List.toArray [.ref mo, .int 1, .int what]) below meth c Hq Lq 0 0 (MQ below (va_Qi (fun (r : Int32) (u : Unit) => r = sp_best 1 what) (fun u t => zz_B D A ((fun (u : Unit) => []) u) ((fun (u : Unit) => []) u) t) A) (List.toArray [.ref mo, .int 1, .int what]) s 0 0 A) (F0 m 70 lq []) := by
                  intro t
                  induction t with
                  | zero =>
                      intro ht vf v2 v5 v6 v7 hin H84 locs85 ls86 Z87 hl88
                      have hl89 : lv_has ls86 9 [(7, .int 0), (6, .int (nI i)), (5, .int 0), (4, .int 0), (3, .int 1), (0, .ref mo), (1, .int 1), (2, .int what)] := hl88
                      clear hl88
                      refine lv_iload hx hb dX7_best_70 (lv_at hl89 0 rfl) ?_
                      refine lv_if_le (tgt := 117) hx hb dX7_best_72 (by decide) (fun _ => ?_) (fun h => absurd (by decide) h)
                      refine lv_aload_n hx hb dX7_best_117 rfl (lv_at hl89 5 rfl) ?_
                      refine zz_get X Z87 0 rfl rfl (fun w h => List.mem_cons_of_mem _ (List.mem_append_right _ h)) 0 rfl (zz_m 3 rfl) rfl dX7_best_118 ?_
                      refine lv_iconst (v := 4) hx hb dX7_best_121 (by decide) ?_
                      refine zz_ild X Z87 1 0 rfl rfl (zz_in 4 3047 rfl) dX7_best_122 ?_
                      refine zz_v (v := 0) hin.2.2.2.2.1 ?_
                      refine lv_istore (lv' := [(7, .int 0), (6, .int (nI i)), (5, .int 0), (4, .int 0), (3, .int 1), (0, .ref mo), (1, .int 1), (2, .int what)]) hx hb dX7_best_123 hl89 (by decide) rfl (fun ls90 hl91 => ?_)
                      clear hl89
                      refine lv_aload_n hx hb dX7_best_125 rfl (lv_at hl91 5 rfl) ?_
                      refine zz_cv (WC := [(mo, .inr (7, [.ref ms, .ref mi, .ref ma, .int 0, .ref mts, .ref mtz, .ref mtn, .ref mh, .ref mhn, .ref mhw, .ref mhz, .ref mhr, .ref mcl, .ref mtp, .int 0, .int 0, .int 0, .int 0, .int 0, .int 0, .int 0, .int 0, .int 0, .int 0, .int 0, .ref mna, .ref mpi, .ref mca, .ref mwa, .int 0, .ref mrd])), (ms, .inl (kms, 3047, .inl vf)), (mcl, .inl (kcl, 47, .inl c913))]) (TC := [(kms, .int), (kcl, .int)]) (WR := []) (TR := []) (k := 0) (n := 0) Z87 [0, 1, 2] [] [0, 1] [] rfl rfl (by decide +kernel) (by decide +kernel) (by decide +kernel) rfl rfl (fun Zc => va_runV (As := []) (rest := []) X (c7_laysBack l D mo ms mi ma mts mtz mtn mh mhn mhw mhz mhr mcl mtp mna mpi mca mwa mrd 0 0 0 0 0 0 0 0 0 0 0 0 0 kms vf kcl c913 H84.size) (cwV 0 hts gX7_best_X7_laysBack rfl rfl rfl ⟨rfl, zh_X7_laysBack⟩ ⟨Nat.le_of_ble_eq_true rfl, Nat.le_of_ble_eq_true rfl⟩) (zz_pV (ci := 7) Zc 0 rfl rfl) rfl rfl hl91.1 rfl (lv_room (Nat.le_of_ble_eq_true rfl)) dX7_best_126 ⟨Nat.le_of_ble_eq_true rfl, Nat.le_of_ble_eq_true rfl⟩) rfl rfl (fun u91 H92 locs93 hw92 Z94 => ?_)
                      clear Z87
                      obtain ⟨f994, rfl⟩ : ∃ z, z = u91 := ⟨_, rfl⟩
                      try dsimp only at hw92 Z94
                      have Z95 : zz_S D A s [(mo, .inr (7, [.ref ms, .ref mi, .ref ma, .int 0, .ref mts, .ref mtz, .ref mtn, .ref mh, .ref mhn, .ref mhw, .ref mhz, .ref mhr, .ref mcl, .ref mtp, .int 0, .int 0, .int 0, .int 0, .int 0, .int 0, .int 0, .int 0, .int 0, .int 0, .int 0, .ref mna, .ref mpi, .ref mca, .ref mwa, .int 0, .ref mrd])), (ms, .inl (kms, 3047, .inl f994)), (mcl, .inl (kcl, 47, .inl c913))] [(kms, .int), (kcl, .int)] H92 locs93 := Z94
                      clear Z94
                      have p95 : f994 0 = 0 := (hw92 0 (by decide)).trans ((hw11 0 (by decide)).trans af_0)
                      have p96 : f994 1 = 0 := (hw92 1 (by decide)).trans ((hw11 1 (by decide)).trans af_1)
                      have p97 : f994 2 = 0 := (hw92 2 (by decide)).trans ((hw11 2 (by decide)).trans af_2)
                      have p98 : f994 3 = 0 := (hw92 3 (by decide)).trans ((hw11 3 (by decide)).trans af_3)
                      have p99 : f994 4 = 0 := (hw92 4 (by decide)).trans ((hw11 4 (by decide)).trans af_4)
                      have p100 : f994 5 = 0 := (hw92 5 (by decide)).trans ((hw11 5 (by decide)).trans af_5)
                      have p101 : f994 6 = 1 := (hw92 6 (by decide)).trans ((hw11 6 (by decide)).trans af_6)
                      have p102 : f994 7 = 0 := (hw92 7 (by decide)).trans ((hw11 7 (by decide)).trans af_7)
                      have p103 : f994 8 = 3 := (hw92 8 (by decide)).trans ((hw11 8 (by decide)).trans af_8)
                      have p104 : f994 9 = 10 := (hw92 9 (by decide)).trans ((hw11 9 (by decide)).trans af_9)
                      have p105 : f994 10 = 0 := (hw92 10 (by decide)).trans ((hw11 10 (by decide)).trans af_10)
                      refine lv_iload hx hb dX7_best_129 (lv_at hl91 3 rfl) ?_
                      refine lv_if_lt (tgt := 141) hx hb dX7_best_131 (by decide) (fun h => absurd h (by decide)) (fun _ => ?_)
                      refine lv_iload hx hb dX7_best_134 (lv_at hl91 0 rfl) ?_
                      refine lv_iload hx hb dX7_best_136 (lv_at hl91 2 rfl) ?_
                      refine lv_icmp_ge (tgt := 149) hx hb dX7_best_138 (by decide) (fun _ => ?_) (fun h => absurd (by decide) h)
                      refine lv_iinc (v := nI (i + 1)) (lv' := [(6, .int (nI (i + 1))), (7, .int 0), (5, .int 0), (4, .int 0), (3, .int 1), (0, .ref mo), (1, .int 1), (2, .int what)]) hx hb dX7_best_149 hl91 (k := 1) rfl (nI_1 i) (by decide) rfl (fun ls96 hl97 => ?_)
                      clear hl91
                      refine lv_goto (tgt := 59) hx hb dX7_best_152 (by decide) ?_
                      exact ih (i + 1) f994 0 (by omega) ⟨p95, p96, p97, p98, p99, p100, p101, p102, p103, p104, p105, (Or.inr ⟨by omega, rfl⟩)⟩ _ _ _ Z95 (lv_sub hl97 [0, 2, 3, 4, 5, 6, 7] rfl)
                  | succ t iht =>
                      intro ht vf v2 v5 v6 v7 hin H98 locs99 ls100 Z101 hl102
                      have hl103 : lv_has ls100 9 [(7, .int (nI (zz_pw (t + 1)))), (6, .int (nI i)), (5, .int 0), (4, .int 0), (3, .int 1), (0, .ref mo), (1, .int 1), (2, .int what)] := hl102
                      clear hl102
                      refine lv_iload hx hb dX7_best_70 (lv_at hl103 0 rfl) ?_
                      refine lv_if_le (tgt := 117) hx hb dX7_best_72 (by decide) (fun h => absurd h (nI_nle (zz_pwP t (by omega)).1 (zz_pwP t (by omega)).2)) (fun _ => ?_)
                      refine lv_iload hx hb dX7_best_75 (lv_at hl103 1 rfl) ?_
                      refine lv_iload hx hb dX7_best_77 (lv_at hl103 0 rfl) ?_
                      refine lv_idiv hx hb dX7_best_79 (nI_ne0 (zz_pwP t (by omega)).1 (zz_pwP t (by omega)).2) ?_
                      refine lv_iconst (v := 3) hx hb dX7_best_80 (by decide) ?_
                      refine lv_irem hx hb dX7_best_81 (by decide) ?_
                      refine lv_topi (fun y106 ey107 => ?_)
                      refine lv_istore (lv' := [(8, .int y106), (7, .int (nI (zz_pw (t + 1)))), (6, .int (nI i)), (5, .int 0), (4, .int 0), (3, .int 1), (0, .ref mo), (1, .int 1), (2, .int what)]) hx hb dX7_best_82 hl103 (by decide) rfl (fun ls104 hl105 => ?_)
                      clear hl103
                      refine lv_aload_n hx hb dX7_best_84 rfl (lv_at hl105 6 rfl) ?_
                      refine lv_iload hx hb dX7_best_85 (lv_at hl105 0 rfl) ?_
                      refine lv_if_ne (tgt := 94) hx hb dX7_best_87 (by decide) (fun b108 => ?_) (fun b108 => ?_)
                      · refine lv_iload hx hb dX7_best_94 (lv_at hl105 0 rfl) ?_
                        refine lv_iconst (v := 1) hx hb dX7_best_96 (by decide) ?_
                        refine lv_icmp_ne (tgt := 104) hx hb dX7_best_97 (by decide) (fun b109 => ?_) (fun b109 => ?_)
                        · refine lv_iconst (v := 1) hx hb dX7_best_104 (by decide) ?_
                          refine zz_cv (WC := [(mo, .inr (7, [.ref ms, .ref mi, .ref ma, .int 0, .ref mts, .ref mtz, .ref mtn, .ref mh, .ref mhn, .ref mhw, .ref mhz, .ref mhr, .ref mcl, .ref mtp, .int 0, .int 0, .int 0, .int 0, .int 0, .int 0, .int 0, .int 0, .int 0, .int 0, .int 0, .ref mna, .ref mpi, .ref mca, .ref mwa, .int 0, .ref mrd])), (ms, .inl (kms, 3047, .inl vf))]) (TC := [(kms, .int)]) (WR := [(mcl, .inl (kcl, 47, .inl c913))]) (TR := [(kcl, .int)]) (k := 0) (n := 0) Z101 [0, 1] [2] [0] [1] rfl rfl (by decide +kernel) (by decide +kernel) (by decide +kernel) rfl rfl (fun Zc => va_runV (As := [.int 1]) (rest := []) X (c7_goesOnBy l D mo ms mi ma mts mtz mtn mh mhn mhw mhz mhr mcl mtp mna mpi mca mwa mrd 0 0 0 0 0 0 0 0 0 0 0 0 0 kms vf 0 v2 0 0 v5 v6 v7 3 10 0 1 hin.1 hin.2.1 hin.2.2.1 hin.2.2.2.1 hin.2.2.2.2.1 hin.2.2.2.2.2.1 hin.2.2.2.2.2.2.1 hin.2.2.2.2.2.2.2.1 hin.2.2.2.2.2.2.2.2.1 hin.2.2.2.2.2.2.2.2.2.1 hin.2.2.2.2.2.2.2.2.2.2 H98.size) (cwV 1 hts gX7_best_X7_goesOnBy rfl rfl rfl ⟨rfl, zh_X7_goesOnBy⟩ ⟨Nat.le_of_ble_eq_true rfl, Nat.le_of_ble_eq_true rfl⟩) (zz_pV (ci := 7) Zc 0 rfl rfl) rfl rfl hl105.1 rfl (lv_room (Nat.le_of_ble_eq_true rfl)) dX7_best_105 ⟨Nat.le_of_ble_eq_true rfl, Nat.le_of_ble_eq_true rfl⟩) rfl rfl (fun u110 H106 locs107 hw111 Z108 => ?_)
                          clear Z101
                          obtain ⟨f9113, F9114, T9115, Z9116⟩ := u110
                          try dsimp only at hw111 Z108
                          obtain ⟨⟨p117, p118, p119, p120, p121, p122, p123, p124, p125, p126, p127⟩, hx128⟩ := hw111
                          obtain ⟨rfl, rfl, rfl⟩ := hx128
                          have Z109 : zz_S D A s [(mcl, .inl (kcl, 47, .inl c913)), (mo, .inr (7, [.ref ms, .ref mi, .ref ma, .int 0, .ref mts, .ref mtz, .ref mtn, .ref mh, .ref mhn, .ref mhw, .ref mhz, .ref mhr, .ref mcl, .ref mtp, .int 0, .int 0, .int 0, .int 0, .int 0, .int 0, .int 0, .int 0, .int 0, .int 0, .int 0, .ref mna, .ref mpi, .ref mca, .ref mwa, .int 0, .ref mrd])), (ms, .inl (kms, 3047, .inl f9113))] [(kcl, .int), (kms, .int)] H106 locs107 := Z108
                          clear Z108
                          refine lv_iload hx hb dX7_best_108 (lv_at hl105 1 rfl) ?_
                          refine lv_iconst (v := 3) hx hb dX7_best_110 (by decide) ?_
                          refine lv_idiv hx hb dX7_best_111 (by decide) ?_
                          refine zz_v (v := nI (zz_pw t)) (zz_pw3 t (by omega)) ?_
                          refine lv_istore (lv' := [(7, .int (nI (zz_pw t))), (8, .int y106), (6, .int (nI i)), (5, .int 0), (4, .int 0), (3, .int 1), (0, .ref mo), (1, .int 1), (2, .int what)]) hx hb dX7_best_112 hl105 (by decide) rfl (fun ls110 hl111 => ?_)
                          clear hl105
                          refine lv_goto (tgt := 70) hx hb dX7_best_114 (by decide) ?_
                          have Z112 := Z109.sub (WS' := [(mo, .inr (7, [.ref ms, .ref mi, .ref ma, .int 0, .ref mts, .ref mtz, .ref mtn, .ref mh, .ref mhn, .ref mhw, .ref mhz, .ref mhr, .ref mcl, .ref mtp, .int 0, .int 0, .int 0, .int 0, .int 0, .int 0, .int 0, .int 0, .int 0, .int 0, .int 0, .ref mna, .ref mpi, .ref mca, .ref mwa, .int 0, .ref mrd])), (ms, .inl (kms, 3047, .inl f9113)), (mcl, .inl (kcl, 47, .inl c913))]) (TYS' := [(kms, .int), (kcl, .int)]) [1, 2, 0] [1, 0] (by decide +kernel) rfl rfl
                          clear Z109
                          exact iht (by omega) f9113 (v2 + 1) (zz_bT v5 v6 10) (zz_bZ v6 10) (zz_mF v7 1 v6 3 10) ⟨p117, p118, p119, p120, p121, p122, p123, p124, p125, p126, p127⟩ _ _ _ Z112 (lv_sub hl111 [0, 2, 3, 4, 5, 6, 7, 8] rfl)
                        · refine lv_iconst (v := (-1)) hx hb dX7_best_100 (by decide) ?_
                          refine lv_goto (tgt := 105) hx hb dX7_best_101 (by decide) ?_
                          refine zz_cv (WC := [(mo, .inr (7, [.ref ms, .ref mi, .ref ma, .int 0, .ref mts, .ref mtz, .ref mtn, .ref mh, .ref mhn, .ref mhw, .ref mhz, .ref mhr, .ref mcl, .ref mtp, .int 0, .int 0, .int 0, .int 0, .int 0, .int 0, .int 0, .int 0, .int 0, .int 0, .int 0, .ref mna, .ref mpi, .ref mca, .ref mwa, .int 0, .ref mrd])), (ms, .inl (kms, 3047, .inl vf))]) (TC := [(kms, .int)]) (WR := [(mcl, .inl (kcl, 47, .inl c913))]) (TR := [(kcl, .int)]) (k := 0) (n := 0) Z101 [0, 1] [2] [0] [1] rfl rfl (by decide +kernel) (by decide +kernel) (by decide +kernel) rfl rfl (fun Zc => va_runV (As := [.int (-1)]) (rest := []) X (c7_goesOnBy l D mo ms mi ma mts mtz mtn mh mhn mhw mhz mhr mcl mtp mna mpi mca mwa mrd 0 0 0 0 0 0 0 0 0 0 0 0 0 kms vf 0 v2 0 0 v5 v6 v7 3 10 0 (-1) hin.1 hin.2.1 hin.2.2.1 hin.2.2.2.1 hin.2.2.2.2.1 hin.2.2.2.2.2.1 hin.2.2.2.2.2.2.1 hin.2.2.2.2.2.2.2.1 hin.2.2.2.2.2.2.2.2.1 hin.2.2.2.2.2.2.2.2.2.1 hin.2.2.2.2.2.2.2.2.2.2 H98.size) (cwV 1 hts gX7_best_X7_goesOnBy rfl rfl rfl ⟨rfl, zh_X7_goesOnBy⟩ ⟨Nat.le_of_ble_eq_true rfl, Nat.le_of_ble_eq_true rfl⟩) (zz_pV (ci := 7) Zc 0 rfl rfl) rfl rfl hl105.1 rfl (lv_room (Nat.le_of_ble_eq_true rfl)) dX7_best_105 ⟨Nat.le_of_ble_eq_true rfl, Nat.le_of_ble_eq_true rfl⟩) rfl rfl (fun u129 H113 locs114 hw130 Z115 => ?_)
                          clear Z101
                          obtain ⟨f9132, F9133, T9134, Z9135⟩ := u129
                          try dsimp only at hw130 Z115
                          obtain ⟨⟨p136, p137, p138, p139, p140, p141, p142, p143, p144, p145, p146⟩, hx147⟩ := hw130
                          obtain ⟨rfl, rfl, rfl⟩ := hx147
                          have Z116 : zz_S D A s [(mcl, .inl (kcl, 47, .inl c913)), (mo, .inr (7, [.ref ms, .ref mi, .ref ma, .int 0, .ref mts, .ref mtz, .ref mtn, .ref mh, .ref mhn, .ref mhw, .ref mhz, .ref mhr, .ref mcl, .ref mtp, .int 0, .int 0, .int 0, .int 0, .int 0, .int 0, .int 0, .int 0, .int 0, .int 0, .int 0, .ref mna, .ref mpi, .ref mca, .ref mwa, .int 0, .ref mrd])), (ms, .inl (kms, 3047, .inl f9132))] [(kcl, .int), (kms, .int)] H113 locs114 := Z115
                          clear Z115
                          refine lv_iload hx hb dX7_best_108 (lv_at hl105 1 rfl) ?_
                          refine lv_iconst (v := 3) hx hb dX7_best_110 (by decide) ?_
                          refine lv_idiv hx hb dX7_best_111 (by decide) ?_
                          refine zz_v (v := nI (zz_pw t)) (zz_pw3 t (by omega)) ?_
                          refine lv_istore (lv' := [(7, .int (nI (zz_pw t))), (8, .int y106), (6, .int (nI i)), (5, .int 0), (4, .int 0), (3, .int 1), (0, .ref mo), (1, .int 1), (2, .int what)]) hx hb dX7_best_112 hl105 (by decide) rfl (fun ls117 hl118 => ?_)
                          clear hl105
                          refine lv_goto (tgt := 70) hx hb dX7_best_114 (by decide) ?_
                          have Z119 := Z116.sub (WS' := [(mo, .inr (7, [.ref ms, .ref mi, .ref ma, .int 0, .ref mts, .ref mtz, .ref mtn, .ref mh, .ref mhn, .ref mhw, .ref mhz, .ref mhr, .ref mcl, .ref mtp, .int 0, .int 0, .int 0, .int 0, .int 0, .int 0, .int 0, .int 0, .int 0, .int 0, .int 0, .ref mna, .ref mpi, .ref mca, .ref mwa, .int 0, .ref mrd])), (ms, .inl (kms, 3047, .inl f9132)), (mcl, .inl (kcl, 47, .inl c913))]) (TYS' := [(kms, .int), (kcl, .int)]) [1, 2, 0] [1, 0] (by decide +kernel) rfl rfl
                          clear Z116
                          exact iht (by omega) f9132 (v2 + 1) (zz_bT v5 v6 10) (zz_bZ v6 10) (zz_mF v7 (-1) v6 3 10) ⟨p136, p137, p138, p139, p140, p141, p142, p143, p144, p145, p146⟩ _ _ _ Z119 (lv_sub hl118 [0, 2, 3, 4, 5, 6, 7, 8] rfl)
                      · refine lv_iconst (v := 0) hx hb dX7_best_90 (by decide) ?_
                        refine lv_goto (tgt := 105) hx hb dX7_best_91 (by decide) ?_
                        refine zz_cv (WC := [(mo, .inr (7, [.ref ms, .ref mi, .ref ma, .int 0, .ref mts, .ref mtz, .ref mtn, .ref mh, .ref mhn, .ref mhw, .ref mhz, .ref mhr, .ref mcl, .ref mtp, .int 0, .int 0, .int 0, .int 0, .int 0, .int 0, .int 0, .int 0, .int 0, .int 0, .int 0, .ref mna, .ref mpi, .ref mca, .ref mwa, .int 0, .ref mrd])), (ms, .inl (kms, 3047, .inl vf))]) (TC := [(kms, .int)]) (WR := [(mcl, .inl (kcl, 47, .inl c913))]) (TR := [(kcl, .int)]) (k := 0) (n := 0) Z101 [0, 1] [2] [0] [1] rfl rfl (by decide +kernel) (by decide +kernel) (by decide +kernel) rfl rfl (fun Zc => va_runV (As := [.int 0]) (rest := []) X (c7_goesOnBy l D mo ms mi ma mts mtz mtn mh mhn mhw mhz mhr mcl mtp mna mpi mca mwa mrd 0 0 0 0 0 0 0 0 0 0 0 0 0 kms vf 0 v2 0 0 v5 v6 v7 3 10 0 0 hin.1 hin.2.1 hin.2.2.1 hin.2.2.2.1 hin.2.2.2.2.1 hin.2.2.2.2.2.1 hin.2.2.2.2.2.2.1 hin.2.2.2.2.2.2.2.1 hin.2.2.2.2.2.2.2.2.1 hin.2.2.2.2.2.2.2.2.2.1 hin.2.2.2.2.2.2.2.2.2.2 H98.size) (cwV 1 hts gX7_best_X7_goesOnBy rfl rfl rfl ⟨rfl, zh_X7_goesOnBy⟩ ⟨Nat.le_of_ble_eq_true rfl, Nat.le_of_ble_eq_true rfl⟩) (zz_pV (ci := 7) Zc 0 rfl rfl) rfl rfl hl105.1 rfl (lv_room (Nat.le_of_ble_eq_true rfl)) dX7_best_105 ⟨Nat.le_of_ble_eq_true rfl, Nat.le_of_ble_eq_true rfl⟩) rfl rfl (fun u148 H120 locs121 hw149 Z122 => ?_)
                        clear Z101
                        obtain ⟨f9151, F9152, T9153, Z9154⟩ := u148
                        try dsimp only at hw149 Z122
                        obtain ⟨⟨p155, p156, p157, p158, p159, p160, p161, p162, p163, p164, p165⟩, hx166⟩ := hw149
                        obtain ⟨rfl, rfl, rfl⟩ := hx166
                        have Z123 : zz_S D A s [(mcl, .inl (kcl, 47, .inl c913)), (mo, .inr (7, [.ref ms, .ref mi, .ref ma, .int 0, .ref mts, .ref mtz, .ref mtn, .ref mh, .ref mhn, .ref mhw, .ref mhz, .ref mhr, .ref mcl, .ref mtp, .int 0, .int 0, .int 0, .int 0, .int 0, .int 0, .int 0, .int 0, .int 0, .int 0, .int 0, .ref mna, .ref mpi, .ref mca, .ref mwa, .int 0, .ref mrd])), (ms, .inl (kms, 3047, .inl f9151))] [(kcl, .int), (kms, .int)] H120 locs121 := Z122
                        clear Z122
                        refine lv_iload hx hb dX7_best_108 (lv_at hl105 1 rfl) ?_
                        refine lv_iconst (v := 3) hx hb dX7_best_110 (by decide) ?_
                        refine lv_idiv hx hb dX7_best_111 (by decide) ?_
                        refine zz_v (v := nI (zz_pw t)) (zz_pw3 t (by omega)) ?_
                        refine lv_istore (lv' := [(7, .int (nI (zz_pw t))), (8, .int y106), (6, .int (nI i)), (5, .int 0), (4, .int 0), (3, .int 1), (0, .ref mo), (1, .int 1), (2, .int what)]) hx hb dX7_best_112 hl105 (by decide) rfl (fun ls124 hl125 => ?_)
                        clear hl105
                        refine lv_goto (tgt := 70) hx hb dX7_best_114 (by decide) ?_
                        have Z126 := Z123.sub (WS' := [(mo, .inr (7, [.ref ms, .ref mi, .ref ma, .int 0, .ref mts, .ref mtz, .ref mtn, .ref mh, .ref mhn, .ref mhw, .ref mhz, .ref mhr, .ref mcl, .ref mtp, .int 0, .int 0, .int 0, .int 0, .int 0, .int 0, .int 0, .int 0, .int 0, .int 0, .int 0, .ref mna, .ref mpi, .ref mca, .ref mwa, .int 0, .ref mrd])), (ms, .inl (kms, 3047, .inl f9151)), (mcl, .inl (kcl, 47, .inl c913))]) (TYS' := [(kms, .int), (kcl, .int)]) [1, 2, 0] [1, 0] (by decide +kernel) rfl rfl
                        clear Z123
                        exact iht (by omega) f9151 (v2 + 1) (zz_bT v5 v6 10) (zz_bZ v6 10) (zz_mF v7 0 v6 3 10) ⟨p155, p156, p157, p158, p159, p160, p161, p162, p163, p164, p165⟩ _ _ _ Z126 (lv_sub hl125 [0, 2, 3, 4, 5, 6, 7, 8] rfl)
                exact inner 1 (by decide) vf 0 0 1 0 ⟨hinv.1, hinv.2.1, hinv.2.2.1, hinv.2.2.2.1, hinv.2.2.2.2.1, hinv.2.2.2.2.2.1, hinv.2.2.2.2.2.2.1, hinv.2.2.2.2.2.2.2.1, hinv.2.2.2.2.2.2.2.2.1, hinv.2.2.2.2.2.2.2.2.2.1, hinv.2.2.2.2.2.2.2.2.2.2.1⟩ _ _ _ Z31 hl83
        exact loop 3 0 f (-1) (by omega) ⟨af_0, af_1, af_2, af_3, af_4, af_5, af_6, af_7, af_8, af_9, af_10, (Or.inl ⟨rfl, rfl⟩)⟩ _ _ _ Z16 hl22
      · refine zz_v (v := 0) (zz_wiF w9) ?_
        refine lv_if_ne (tgt := 25) hx hb dX7_best_19 (by decide) (fun h => absurd (by decide) h) (fun _ => ?_)
        refine lv_ldc (v := (-1000000001)) hx hb hown (hts _ (zz_m 2 rfl)) dX7_best_22 ?_
        exact zz_iret X hr hlk Z8 () (by simp [sp_best, w9]) [] [] (by decide +kernel) rfl rfl dX7_best_24
    · have e5 : n = 2 := e5
      subst e5
      refine zz_v (v := 1) (by decide) ?_
      refine lv_if_eq (tgt := 22) hx hb dX7_best_9 (by decide) (fun h => absurd h (by decide)) (fun _ => ?_)
      refine lv_iload_n hx hb dX7_best_12 rfl (lv_at hl 2 rfl) ?_
      refine lv_i2l (v := Int32.toInt64 what) hx hb dX7_best_13 rfl ?_
      refine lv_lconst (v := 0) hx hb dX7_best_14 (by decide) ?_
      refine zz_vl (v := Int32.toInt64 0) (by decide) ?_
      refine lv_lconst (v := 1) hx hb dX7_best_15 (by decide) ?_
      refine zz_vl (v := Int32.toInt64 1) (by decide) ?_
      refine zz_ci (WC := []) (TC := []) (WR := [(mo, .inr (7, [.ref ms, .ref mi, .ref ma, .int 0, .ref mts, .ref mtz, .ref mtn, .ref mh, .ref mhn, .ref mhw, .ref mhz, .ref mhr, .ref mcl, .ref mtp, .int 0, .int 0, .int 0, .int 0, .int 0, .int 0, .int 0, .int 0, .int 0, .int 0, .int 0, .ref mna, .ref mpi, .ref mca, .ref mwa, .int 0, .ref mrd])), (ms, .inl (kms, 3047, .inl f)), (mcl, .inl (kcl, 47, .inl cf))]) (TR := [(kms, .int), (kcl, .int)]) (k := 0) (n := 0) Z4 [] [0, 1, 2] [] [0, 1] rfl rfl (by decide +kernel) (by decide +kernel) (by decide +kernel) rfl rfl (fun Zc => va_runS (As := [.long (Int32.toInt64 what), .long (Int32.toInt64 0), .long (Int32.toInt64 1)]) (rest := []) X (c_isIn l D what 0 1 H1.size) (va_cwS 3 hts gX7_best_X7_isIn rfl rfl rfl zh_X7_isIn ⟨Nat.le_of_ble_eq_true rfl, Nat.le_of_ble_eq_true rfl⟩) (zz_pS Zc) rfl rfl hl.1 rfl (lv_room (Nat.le_of_ble_eq_true rfl)) dX7_best_16 ⟨Nat.le_of_ble_eq_true rfl, Nat.le_of_ble_eq_true rfl⟩) rfl rfl (fun r169 u167 H127 locs128 hw168 Z129 => ?_)
      clear Z4
      subst r169
      have Z130 : zz_S D A s [(mo, .inr (7, [.ref ms, .ref mi, .ref ma, .int 0, .ref mts, .ref mtz, .ref mtn, .ref mh, .ref mhn, .ref mhw, .ref mhz, .ref mhr, .ref mcl, .ref mtp, .int 0, .int 0, .int 0, .int 0, .int 0, .int 0, .int 0, .int 0, .int 0, .int 0, .int 0, .ref mna, .ref mpi, .ref mca, .ref mwa, .int 0, .ref mrd])), (ms, .inl (kms, 3047, .inl f)), (mcl, .inl (kcl, 47, .inl cf))] [(kms, .int), (kcl, .int)] H127 locs128 := Z129
      clear Z129
      by_cases w170 : 0 ≤ what ∧ what ≤ 1
      · refine zz_v (v := 1) (zz_wiT w170) ?_
        refine lv_if_ne (tgt := 25) hx hb dX7_best_19 (by decide) (fun _ => ?_) (fun h => absurd h (by decide))
        refine lv_iconst (v := 1) hx hb dX7_best_25 (by decide) ?_
        refine lv_istore_n (lv' := [(3, .int 1), (0, .ref mo), (1, .int 2), (2, .int what)]) hx hb dX7_best_26 rfl hl (by decide) rfl (fun ls131 hl132 => ?_)
        clear hl
        refine lv_iconst (v := 1) hx hb dX7_best_27 (by decide) ?_
        refine lv_istore (lv' := [(4, .int 1), (3, .int 1), (0, .ref mo), (1, .int 2), (2, .int what)]) hx hb dX7_best_28 hl132 (by decide) rfl (fun ls133 hl134 => ?_)
        clear hl132
        refine lv_iload hx hb dX7_best_30 (lv_at hl134 0 rfl) ?_
        refine lv_iload_n hx hb dX7_best_32 rfl (lv_at hl134 3 rfl) ?_
        refine lv_icmp_ge (tgt := 46) hx hb dX7_best_33 (by decide) (fun h => absurd h (by decide)) (fun _ => ?_)
        refine lv_iload_n hx hb dX7_best_36 rfl (lv_at hl134 1 rfl) ?_
        refine lv_iconst (v := 3) hx hb dX7_best_37 (by decide) ?_
        refine lv_imul hx hb dX7_best_38 ?_
        refine zz_v (v := 3) (by decide) ?_
        refine lv_istore_n (lv' := [(3, .int 3), (4, .int 1), (0, .ref mo), (1, .int 2), (2, .int what)]) hx hb dX7_best_39 rfl hl134 (by decide) rfl (fun ls135 hl136 => ?_)
        clear hl134
        refine lv_iinc (v := 2) (lv' := [(4, .int 2), (3, .int 3), (0, .ref mo), (1, .int 2), (2, .int what)]) hx hb dX7_best_40 hl136 (k := 1) rfl (by decide) (by decide) rfl (fun ls137 hl138 => ?_)
        clear hl136
        refine lv_goto (tgt := 30) hx hb dX7_best_43 (by decide) ?_
        refine lv_iload hx hb dX7_best_30 (lv_at hl138 0 rfl) ?_
        refine lv_iload_n hx hb dX7_best_32 rfl (lv_at hl138 3 rfl) ?_
        refine lv_icmp_ge (tgt := 46) hx hb dX7_best_33 (by decide) (fun _ => ?_) (fun h => absurd (by decide) h)
        refine lv_aload_n hx hb dX7_best_46 rfl (lv_at hl138 2 rfl) ?_
        refine zz_cv (WC := [(mo, .inr (7, [.ref ms, .ref mi, .ref ma, .int 0, .ref mts, .ref mtz, .ref mtn, .ref mh, .ref mhn, .ref mhw, .ref mhz, .ref mhr, .ref mcl, .ref mtp, .int 0, .int 0, .int 0, .int 0, .int 0, .int 0, .int 0, .int 0, .int 0, .int 0, .int 0, .ref mna, .ref mpi, .ref mca, .ref mwa, .int 0, .ref mrd])), (ms, .inl (kms, 3047, .inl f)), (mcl, .inl (kcl, 47, .inl cf))]) (TC := [(kms, .int), (kcl, .int)]) (WR := []) (TR := []) (k := 0) (n := 0) Z130 [0, 1, 2] [] [0, 1] [] rfl rfl (by decide +kernel) (by decide +kernel) (by decide +kernel) rfl rfl (fun Zc => va_runV (As := []) (rest := []) X (c7_laysBy l D mo ms mi ma mts mtz mtn mh mhn mhw mhz mhr mcl mtp mna mpi mca mwa mrd 0 0 0 0 0 0 0 0 0 0 0 0 0 kms f kcl cf H127.size) (cwV 0 hts gX7_best_X7_laysBy rfl rfl rfl ⟨rfl, zh_X7_laysBy⟩ ⟨Nat.le_of_ble_eq_true rfl, Nat.le_of_ble_eq_true rfl⟩) (zz_pV (ci := 7) Zc 0 rfl rfl) rfl rfl hl138.1 rfl (lv_room (Nat.le_of_ble_eq_true rfl)) dX7_best_47 ⟨Nat.le_of_ble_eq_true rfl, Nat.le_of_ble_eq_true rfl⟩) rfl rfl (fun u171 H139 locs140 hw172 Z141 => ?_)
        clear Z130
        obtain ⟨c9174, rfl⟩ : ∃ z, z = u171 := ⟨_, rfl⟩
        try dsimp only at hw172 Z141
        have Z142 : zz_S D A s [(mo, .inr (7, [.ref ms, .ref mi, .ref ma, .int 0, .ref mts, .ref mtz, .ref mtn, .ref mh, .ref mhn, .ref mhw, .ref mhz, .ref mhr, .ref mcl, .ref mtp, .int 0, .int 0, .int 0, .int 0, .int 0, .int 0, .int 0, .int 0, .int 0, .int 0, .int 0, .ref mna, .ref mpi, .ref mca, .ref mwa, .int 0, .ref mrd])), (ms, .inl (kms, 3047, .inl f)), (mcl, .inl (kcl, 47, .inl c9174))] [(kms, .int), (kcl, .int)] H139 locs140 := Z141
        clear Z141
        refine lv_iconst (v := (-1)) hx hb dX7_best_50 (by decide) ?_
        refine lv_istore (lv' := [(4, .int (-1)), (3, .int 3), (0, .ref mo), (1, .int 2), (2, .int what)]) hx hb dX7_best_51 hl138 (by decide) rfl (fun ls143 hl144 => ?_)
        clear hl138
        refine lv_iconst (v := 0) hx hb dX7_best_53 (by decide) ?_
        refine lv_istore (lv' := [(5, .int 0), (4, .int (-1)), (3, .int 3), (0, .ref mo), (1, .int 2), (2, .int what)]) hx hb dX7_best_54 hl144 (by decide) rfl (fun ls145 hl146 => ?_)
        clear hl144
        refine lv_iconst (v := 0) hx hb dX7_best_56 (by decide) ?_
        refine lv_istore (lv' := [(6, .int 0), (5, .int 0), (4, .int (-1)), (3, .int 3), (0, .ref mo), (1, .int 2), (2, .int what)]) hx hb dX7_best_57 hl146 (by decide) rfl (fun ls147 hl148 => ?_)
        clear hl146
        have loop : ∀ (k i : Nat) (vf : Nat → Int32) (vb : Int32), i + k = 9 → (vf 0 = 0 ∧ vf 1 = 0 ∧ vf 2 = 0 ∧ vf 3 = 0 ∧ vf 4 = 0 ∧ vf 5 = 0 ∧ vf 6 = 1 ∧ vf 7 = 0 ∧ vf 8 = 3 ∧ vf 9 = 10 ∧ vf 10 = 0 ∧ ((i = 0 ∧ vb = -1) ∨ (0 < i ∧ vb = 0))) → ∀ (Hq : Heap) (Lq : List Loc) (lq : Array Slot), zz_S D A s [(mo, .inr (7, [.ref ms, .ref mi, .ref ma, .int 0, .ref mts, .ref mtz, .ref mtn, .ref mh, .ref mhn, .ref mhw, .ref mhz, .ref mhr, .ref mcl, .ref mtp, .int 0, .int 0, .int 0, .int 0, .int 0, .int 0, .int 0, .int 0, .int 0, .int 0, .int 0, .ref mna, .ref mpi, .ref mca, .ref mwa, .int 0, .ref mrd])), (ms, .inl (kms, 3047, .inl vf)), (mcl, .inl (kcl, 47, .inl c9174))] [(kms, .int), (kcl, .int)] Hq Lq → lv_has lq 9 [(6, .int (nI i)), (5, .int 0), (4, .int vb), (3, .int 3), (0, .ref mo), (1, .int 2), (2, .int what)] → W p l e (headSpec wsX7_best { frames := 3, cells := 0, slots := 0, locals := 64 }).room s m (List.toArray [.ref mo, .int 2, .int what]) below meth c Hq Lq 0 0 (MQ below (va_Qi (fun (r : Int32) (u : Unit) => r = sp_best 2 what) (fun u t => zz_B D A ((fun (u : Unit) => []) u) ((fun (u : Unit) => []) u) t) A) (List.toArray [.ref mo, .int 2, .int what]) s 0 0 A) (F0 m 59 lq []) := by
          intro k
          induction k with
          | zero =>
              intro i vf vb hik hinv H149 locs150 ls151 Z152 hl153
              rcases hinv.2.2.2.2.2.2.2.2.2.2.2 with ⟨h0, hv⟩ | ⟨h0, hv⟩
              · omega
              subst hv
              refine lv_iload hx hb dX7_best_59 (lv_at hl153 0 rfl) ?_
              refine lv_iconst (v := 3) hx hb dX7_best_61 (by decide) ?_
              refine lv_iload_n hx hb dX7_best_62 rfl (lv_at hl153 3 rfl) ?_
              refine lv_imul hx hb dX7_best_63 ?_
              refine zz_v (v := 9) (by decide) ?_
              refine lv_icmp_ge (tgt := 155) hx hb dX7_best_64 (by decide) (fun _ => ?_) (fun h => absurd (nI_le (a := 9) (b := i) (by omega) (by omega)) h)
              refine lv_iload_n hx hb dX7_best_155 rfl (lv_at hl153 6 rfl) ?_
              refine lv_if_ne (tgt := 164) hx hb dX7_best_156 (by decide) (fun b175 => ?_) (fun b175 => ?_)
              · refine lv_iload hx hb dX7_best_164 (lv_at hl153 1 rfl) ?_
                exact zz_iret X hr hlk Z152 () (by simp [sp_best, w170]) [] [] (by decide +kernel) rfl rfl dX7_best_166
              · refine lv_iload hx hb dX7_best_159 (lv_at hl153 2 rfl) ?_
                refine lv_goto (tgt := 166) hx hb dX7_best_161 (by decide) ?_
                exact zz_iret X hr hlk Z152 () (by simp [sp_best, w170]) [] [] (by decide +kernel) rfl rfl dX7_best_166
          | succ k ih =>
              intro i vf vb hik hinv H154 locs155 ls156 Z157 hl158
              rcases hinv.2.2.2.2.2.2.2.2.2.2.2 with ⟨h0, hv⟩ | ⟨h0, hv⟩
              · subst hv
                refine lv_iload hx hb dX7_best_59 (lv_at hl158 0 rfl) ?_
                refine lv_iconst (v := 3) hx hb dX7_best_61 (by decide) ?_
                refine lv_iload_n hx hb dX7_best_62 rfl (lv_at hl158 3 rfl) ?_
                refine lv_imul hx hb dX7_best_63 ?_
                refine zz_v (v := 9) (by decide) ?_
                refine lv_icmp_ge (tgt := 155) hx hb dX7_best_64 (by decide) (fun h => absurd h (nI_ge (a := i) (b := 9) (by omega) (by omega))) (fun _ => ?_)
                refine lv_iload_n hx hb dX7_best_67 rfl (lv_at hl158 3 rfl) ?_
                refine lv_istore (lv' := [(7, .int 3), (6, .int (nI i)), (5, .int 0), (4, .int (-1)), (3, .int 3), (0, .ref mo), (1, .int 2), (2, .int what)]) hx hb dX7_best_68 hl158 (by decide) rfl (fun ls159 hl160 => ?_)
                clear hl158
                have inner : ∀ (t : Nat), t ≤ 5 → ∀ (vf : Nat → Int32) (v2 v5 v6 v7 : Int32), vf 0 = 0 ∧ vf 1 = 0 ∧ vf 2 = v2 ∧ vf 3 = 0 ∧ vf 4 = 0 ∧ vf 5 = v5 ∧ vf 6 = v6 ∧ vf 7 = v7 ∧ vf 8 = 3 ∧ vf 9 = 10 ∧ vf 10 = 0 → ∀ (Hq : Heap) (Lq : List Loc) (lq : Array Slot), zz_S D A s [(mo, .inr (7, [.ref ms, .ref mi, .ref ma, .int 0, .ref mts, .ref mtz, .ref mtn, .ref mh, .ref mhn, .ref mhw, .ref mhz, .ref mhr, .ref mcl, .ref mtp, .int 0, .int 0, .int 0, .int 0, .int 0, .int 0, .int 0, .int 0, .int 0, .int 0, .int 0, .ref mna, .ref mpi, .ref mca, .ref mwa, .int 0, .ref mrd])), (ms, .inl (kms, 3047, .inl vf)), (mcl, .inl (kcl, 47, .inl c9174))] [(kms, .int), (kcl, .int)] Hq Lq → lv_has lq 9 [(7, .int (nI (zz_pw t))), (6, .int (nI i)), (5, .int 0), (4, .int (-1)), (3, .int 3), (0, .ref mo), (1, .int 2), (2, .int what)] → W p l e (headSpec wsX7_best { frames := 3, cells := 0, slots := 0, locals := 64 }).room s m (List.toArray [.ref mo, .int 2, .int what]) below meth c Hq Lq 0 0 (MQ below (va_Qi (fun (r : Int32) (u : Unit) => r = sp_best 2 what) (fun u t => zz_B D A ((fun (u : Unit) => []) u) ((fun (u : Unit) => []) u) t) A) (List.toArray [.ref mo, .int 2, .int what]) s 0 0 A) (F0 m 70 lq []) := by
                  intro t
                  induction t with
                  | zero =>
                      intro ht vf v2 v5 v6 v7 hin H161 locs162 ls163 Z164 hl165
                      have hl166 : lv_has ls163 9 [(7, .int 0), (6, .int (nI i)), (5, .int 0), (4, .int (-1)), (3, .int 3), (0, .ref mo), (1, .int 2), (2, .int what)] := hl165
                      clear hl165
                      refine lv_iload hx hb dX7_best_70 (lv_at hl166 0 rfl) ?_
                      refine lv_if_le (tgt := 117) hx hb dX7_best_72 (by decide) (fun _ => ?_) (fun h => absurd (by decide) h)
                      refine lv_aload_n hx hb dX7_best_117 rfl (lv_at hl166 5 rfl) ?_
                      refine zz_get X Z164 0 rfl rfl (fun w h => List.mem_cons_of_mem _ (List.mem_append_right _ h)) 0 rfl (zz_m 3 rfl) rfl dX7_best_118 ?_
                      refine lv_iconst (v := 4) hx hb dX7_best_121 (by decide) ?_
                      refine zz_ild X Z164 1 0 rfl rfl (zz_in 4 3047 rfl) dX7_best_122 ?_
                      refine zz_v (v := 0) hin.2.2.2.2.1 ?_
                      refine lv_istore (lv' := [(7, .int 0), (6, .int (nI i)), (5, .int 0), (4, .int (-1)), (3, .int 3), (0, .ref mo), (1, .int 2), (2, .int what)]) hx hb dX7_best_123 hl166 (by decide) rfl (fun ls167 hl168 => ?_)
                      clear hl166
                      refine lv_aload_n hx hb dX7_best_125 rfl (lv_at hl168 5 rfl) ?_
                      refine zz_cv (WC := [(mo, .inr (7, [.ref ms, .ref mi, .ref ma, .int 0, .ref mts, .ref mtz, .ref mtn, .ref mh, .ref mhn, .ref mhw, .ref mhz, .ref mhr, .ref mcl, .ref mtp, .int 0, .int 0, .int 0, .int 0, .int 0, .int 0, .int 0, .int 0, .int 0, .int 0, .int 0, .ref mna, .ref mpi, .ref mca, .ref mwa, .int 0, .ref mrd])), (ms, .inl (kms, 3047, .inl vf)), (mcl, .inl (kcl, 47, .inl c9174))]) (TC := [(kms, .int), (kcl, .int)]) (WR := []) (TR := []) (k := 0) (n := 0) Z164 [0, 1, 2] [] [0, 1] [] rfl rfl (by decide +kernel) (by decide +kernel) (by decide +kernel) rfl rfl (fun Zc => va_runV (As := []) (rest := []) X (c7_laysBack l D mo ms mi ma mts mtz mtn mh mhn mhw mhz mhr mcl mtp mna mpi mca mwa mrd 0 0 0 0 0 0 0 0 0 0 0 0 0 kms vf kcl c9174 H161.size) (cwV 0 hts gX7_best_X7_laysBack rfl rfl rfl ⟨rfl, zh_X7_laysBack⟩ ⟨Nat.le_of_ble_eq_true rfl, Nat.le_of_ble_eq_true rfl⟩) (zz_pV (ci := 7) Zc 0 rfl rfl) rfl rfl hl168.1 rfl (lv_room (Nat.le_of_ble_eq_true rfl)) dX7_best_126 ⟨Nat.le_of_ble_eq_true rfl, Nat.le_of_ble_eq_true rfl⟩) rfl rfl (fun u176 H169 locs170 hw177 Z171 => ?_)
                      clear Z164
                      obtain ⟨f9179, rfl⟩ : ∃ z, z = u176 := ⟨_, rfl⟩
                      try dsimp only at hw177 Z171
                      have Z172 : zz_S D A s [(mo, .inr (7, [.ref ms, .ref mi, .ref ma, .int 0, .ref mts, .ref mtz, .ref mtn, .ref mh, .ref mhn, .ref mhw, .ref mhz, .ref mhr, .ref mcl, .ref mtp, .int 0, .int 0, .int 0, .int 0, .int 0, .int 0, .int 0, .int 0, .int 0, .int 0, .int 0, .ref mna, .ref mpi, .ref mca, .ref mwa, .int 0, .ref mrd])), (ms, .inl (kms, 3047, .inl f9179)), (mcl, .inl (kcl, 47, .inl c9174))] [(kms, .int), (kcl, .int)] H169 locs170 := Z171
                      clear Z171
                      have p180 : f9179 0 = 0 := (hw177 0 (by decide)).trans ((hw172 0 (by decide)).trans af_0)
                      have p181 : f9179 1 = 0 := (hw177 1 (by decide)).trans ((hw172 1 (by decide)).trans af_1)
                      have p182 : f9179 2 = 0 := (hw177 2 (by decide)).trans ((hw172 2 (by decide)).trans af_2)
                      have p183 : f9179 3 = 0 := (hw177 3 (by decide)).trans ((hw172 3 (by decide)).trans af_3)
                      have p184 : f9179 4 = 0 := (hw177 4 (by decide)).trans ((hw172 4 (by decide)).trans af_4)
                      have p185 : f9179 5 = 0 := (hw177 5 (by decide)).trans ((hw172 5 (by decide)).trans af_5)
                      have p186 : f9179 6 = 1 := (hw177 6 (by decide)).trans ((hw172 6 (by decide)).trans af_6)
                      have p187 : f9179 7 = 0 := (hw177 7 (by decide)).trans ((hw172 7 (by decide)).trans af_7)
                      have p188 : f9179 8 = 3 := (hw177 8 (by decide)).trans ((hw172 8 (by decide)).trans af_8)
                      have p189 : f9179 9 = 10 := (hw177 9 (by decide)).trans ((hw172 9 (by decide)).trans af_9)
                      have p190 : f9179 10 = 0 := (hw177 10 (by decide)).trans ((hw172 10 (by decide)).trans af_10)
                      refine lv_iload hx hb dX7_best_129 (lv_at hl168 3 rfl) ?_
                      refine lv_if_lt (tgt := 141) hx hb dX7_best_131 (by decide) (fun _ => ?_) (fun h => absurd (by decide) h)
                      refine lv_iload hx hb dX7_best_141 (lv_at hl168 1 rfl) ?_
                      refine lv_istore (lv' := [(4, .int (nI i)), (7, .int 0), (6, .int (nI i)), (5, .int 0), (3, .int 3), (0, .ref mo), (1, .int 2), (2, .int what)]) hx hb dX7_best_143 hl168 (by decide) rfl (fun ls173 hl174 => ?_)
                      clear hl168
                      refine lv_iload hx hb dX7_best_145 (lv_at hl174 1 rfl) ?_
                      refine lv_istore (lv' := [(5, .int 0), (4, .int (nI i)), (7, .int 0), (6, .int (nI i)), (3, .int 3), (0, .ref mo), (1, .int 2), (2, .int what)]) hx hb dX7_best_147 hl174 (by decide) rfl (fun ls175 hl176 => ?_)
                      clear hl174
                      refine lv_iinc (v := nI (i + 1)) (lv' := [(6, .int (nI (i + 1))), (5, .int 0), (4, .int (nI i)), (7, .int 0), (3, .int 3), (0, .ref mo), (1, .int 2), (2, .int what)]) hx hb dX7_best_149 hl176 (k := 3) rfl (nI_1 i) (by decide) rfl (fun ls177 hl178 => ?_)
                      clear hl176
                      refine lv_goto (tgt := 59) hx hb dX7_best_152 (by decide) ?_
                      exact ih (i + 1) f9179 (nI i) (by omega) ⟨p180, p181, p182, p183, p184, p185, p186, p187, p188, p189, p190, (Or.inr ⟨by omega, by rw [h0]; rfl⟩)⟩ _ _ _ Z172 (lv_sub hl178 [0, 1, 2, 4, 5, 6, 7] rfl)
                  | succ t iht =>
                      intro ht vf v2 v5 v6 v7 hin H179 locs180 ls181 Z182 hl183
                      have hl184 : lv_has ls181 9 [(7, .int (nI (zz_pw (t + 1)))), (6, .int (nI i)), (5, .int 0), (4, .int (-1)), (3, .int 3), (0, .ref mo), (1, .int 2), (2, .int what)] := hl183
                      clear hl183
                      refine lv_iload hx hb dX7_best_70 (lv_at hl184 0 rfl) ?_
                      refine lv_if_le (tgt := 117) hx hb dX7_best_72 (by decide) (fun h => absurd h (nI_nle (zz_pwP t (by omega)).1 (zz_pwP t (by omega)).2)) (fun _ => ?_)
                      refine lv_iload hx hb dX7_best_75 (lv_at hl184 1 rfl) ?_
                      refine lv_iload hx hb dX7_best_77 (lv_at hl184 0 rfl) ?_
                      refine lv_idiv hx hb dX7_best_79 (nI_ne0 (zz_pwP t (by omega)).1 (zz_pwP t (by omega)).2) ?_
                      refine lv_iconst (v := 3) hx hb dX7_best_80 (by decide) ?_
                      refine lv_irem hx hb dX7_best_81 (by decide) ?_
                      refine lv_topi (fun y191 ey192 => ?_)
                      refine lv_istore (lv' := [(8, .int y191), (7, .int (nI (zz_pw (t + 1)))), (6, .int (nI i)), (5, .int 0), (4, .int (-1)), (3, .int 3), (0, .ref mo), (1, .int 2), (2, .int what)]) hx hb dX7_best_82 hl184 (by decide) rfl (fun ls185 hl186 => ?_)
                      clear hl184
                      refine lv_aload_n hx hb dX7_best_84 rfl (lv_at hl186 6 rfl) ?_
                      refine lv_iload hx hb dX7_best_85 (lv_at hl186 0 rfl) ?_
                      refine lv_if_ne (tgt := 94) hx hb dX7_best_87 (by decide) (fun b193 => ?_) (fun b193 => ?_)
                      · refine lv_iload hx hb dX7_best_94 (lv_at hl186 0 rfl) ?_
                        refine lv_iconst (v := 1) hx hb dX7_best_96 (by decide) ?_
                        refine lv_icmp_ne (tgt := 104) hx hb dX7_best_97 (by decide) (fun b194 => ?_) (fun b194 => ?_)
                        · refine lv_iconst (v := 1) hx hb dX7_best_104 (by decide) ?_
                          refine zz_cv (WC := [(mo, .inr (7, [.ref ms, .ref mi, .ref ma, .int 0, .ref mts, .ref mtz, .ref mtn, .ref mh, .ref mhn, .ref mhw, .ref mhz, .ref mhr, .ref mcl, .ref mtp, .int 0, .int 0, .int 0, .int 0, .int 0, .int 0, .int 0, .int 0, .int 0, .int 0, .int 0, .ref mna, .ref mpi, .ref mca, .ref mwa, .int 0, .ref mrd])), (ms, .inl (kms, 3047, .inl vf))]) (TC := [(kms, .int)]) (WR := [(mcl, .inl (kcl, 47, .inl c9174))]) (TR := [(kcl, .int)]) (k := 0) (n := 0) Z182 [0, 1] [2] [0] [1] rfl rfl (by decide +kernel) (by decide +kernel) (by decide +kernel) rfl rfl (fun Zc => va_runV (As := [.int 1]) (rest := []) X (c7_goesOnBy l D mo ms mi ma mts mtz mtn mh mhn mhw mhz mhr mcl mtp mna mpi mca mwa mrd 0 0 0 0 0 0 0 0 0 0 0 0 0 kms vf 0 v2 0 0 v5 v6 v7 3 10 0 1 hin.1 hin.2.1 hin.2.2.1 hin.2.2.2.1 hin.2.2.2.2.1 hin.2.2.2.2.2.1 hin.2.2.2.2.2.2.1 hin.2.2.2.2.2.2.2.1 hin.2.2.2.2.2.2.2.2.1 hin.2.2.2.2.2.2.2.2.2.1 hin.2.2.2.2.2.2.2.2.2.2 H179.size) (cwV 1 hts gX7_best_X7_goesOnBy rfl rfl rfl ⟨rfl, zh_X7_goesOnBy⟩ ⟨Nat.le_of_ble_eq_true rfl, Nat.le_of_ble_eq_true rfl⟩) (zz_pV (ci := 7) Zc 0 rfl rfl) rfl rfl hl186.1 rfl (lv_room (Nat.le_of_ble_eq_true rfl)) dX7_best_105 ⟨Nat.le_of_ble_eq_true rfl, Nat.le_of_ble_eq_true rfl⟩) rfl rfl (fun u195 H187 locs188 hw196 Z189 => ?_)
                          clear Z182
                          obtain ⟨f9198, F9199, T9200, Z9201⟩ := u195
                          try dsimp only at hw196 Z189
                          obtain ⟨⟨p202, p203, p204, p205, p206, p207, p208, p209, p210, p211, p212⟩, hx213⟩ := hw196
                          obtain ⟨rfl, rfl, rfl⟩ := hx213
                          have Z190 : zz_S D A s [(mcl, .inl (kcl, 47, .inl c9174)), (mo, .inr (7, [.ref ms, .ref mi, .ref ma, .int 0, .ref mts, .ref mtz, .ref mtn, .ref mh, .ref mhn, .ref mhw, .ref mhz, .ref mhr, .ref mcl, .ref mtp, .int 0, .int 0, .int 0, .int 0, .int 0, .int 0, .int 0, .int 0, .int 0, .int 0, .int 0, .ref mna, .ref mpi, .ref mca, .ref mwa, .int 0, .ref mrd])), (ms, .inl (kms, 3047, .inl f9198))] [(kcl, .int), (kms, .int)] H187 locs188 := Z189
                          clear Z189
                          refine lv_iload hx hb dX7_best_108 (lv_at hl186 1 rfl) ?_
                          refine lv_iconst (v := 3) hx hb dX7_best_110 (by decide) ?_
                          refine lv_idiv hx hb dX7_best_111 (by decide) ?_
                          refine zz_v (v := nI (zz_pw t)) (zz_pw3 t (by omega)) ?_
                          refine lv_istore (lv' := [(7, .int (nI (zz_pw t))), (8, .int y191), (6, .int (nI i)), (5, .int 0), (4, .int (-1)), (3, .int 3), (0, .ref mo), (1, .int 2), (2, .int what)]) hx hb dX7_best_112 hl186 (by decide) rfl (fun ls191 hl192 => ?_)
                          clear hl186
                          refine lv_goto (tgt := 70) hx hb dX7_best_114 (by decide) ?_
                          have Z193 := Z190.sub (WS' := [(mo, .inr (7, [.ref ms, .ref mi, .ref ma, .int 0, .ref mts, .ref mtz, .ref mtn, .ref mh, .ref mhn, .ref mhw, .ref mhz, .ref mhr, .ref mcl, .ref mtp, .int 0, .int 0, .int 0, .int 0, .int 0, .int 0, .int 0, .int 0, .int 0, .int 0, .int 0, .ref mna, .ref mpi, .ref mca, .ref mwa, .int 0, .ref mrd])), (ms, .inl (kms, 3047, .inl f9198)), (mcl, .inl (kcl, 47, .inl c9174))]) (TYS' := [(kms, .int), (kcl, .int)]) [1, 2, 0] [1, 0] (by decide +kernel) rfl rfl
                          clear Z190
                          exact iht (by omega) f9198 (v2 + 1) (zz_bT v5 v6 10) (zz_bZ v6 10) (zz_mF v7 1 v6 3 10) ⟨p202, p203, p204, p205, p206, p207, p208, p209, p210, p211, p212⟩ _ _ _ Z193 (lv_sub hl192 [0, 2, 3, 4, 5, 6, 7, 8] rfl)
                        · refine lv_iconst (v := (-1)) hx hb dX7_best_100 (by decide) ?_
                          refine lv_goto (tgt := 105) hx hb dX7_best_101 (by decide) ?_
                          refine zz_cv (WC := [(mo, .inr (7, [.ref ms, .ref mi, .ref ma, .int 0, .ref mts, .ref mtz, .ref mtn, .ref mh, .ref mhn, .ref mhw, .ref mhz, .ref mhr, .ref mcl, .ref mtp, .int 0, .int 0, .int 0, .int 0, .int 0, .int 0, .int 0, .int 0, .int 0, .int 0, .int 0, .ref mna, .ref mpi, .ref mca, .ref mwa, .int 0, .ref mrd])), (ms, .inl (kms, 3047, .inl vf))]) (TC := [(kms, .int)]) (WR := [(mcl, .inl (kcl, 47, .inl c9174))]) (TR := [(kcl, .int)]) (k := 0) (n := 0) Z182 [0, 1] [2] [0] [1] rfl rfl (by decide +kernel) (by decide +kernel) (by decide +kernel) rfl rfl (fun Zc => va_runV (As := [.int (-1)]) (rest := []) X (c7_goesOnBy l D mo ms mi ma mts mtz mtn mh mhn mhw mhz mhr mcl mtp mna mpi mca mwa mrd 0 0 0 0 0 0 0 0 0 0 0 0 0 kms vf 0 v2 0 0 v5 v6 v7 3 10 0 (-1) hin.1 hin.2.1 hin.2.2.1 hin.2.2.2.1 hin.2.2.2.2.1 hin.2.2.2.2.2.1 hin.2.2.2.2.2.2.1 hin.2.2.2.2.2.2.2.1 hin.2.2.2.2.2.2.2.2.1 hin.2.2.2.2.2.2.2.2.2.1 hin.2.2.2.2.2.2.2.2.2.2 H179.size) (cwV 1 hts gX7_best_X7_goesOnBy rfl rfl rfl ⟨rfl, zh_X7_goesOnBy⟩ ⟨Nat.le_of_ble_eq_true rfl, Nat.le_of_ble_eq_true rfl⟩) (zz_pV (ci := 7) Zc 0 rfl rfl) rfl rfl hl186.1 rfl (lv_room (Nat.le_of_ble_eq_true rfl)) dX7_best_105 ⟨Nat.le_of_ble_eq_true rfl, Nat.le_of_ble_eq_true rfl⟩) rfl rfl (fun u214 H194 locs195 hw215 Z196 => ?_)
                          clear Z182
                          obtain ⟨f9217, F9218, T9219, Z9220⟩ := u214
                          try dsimp only at hw215 Z196
                          obtain ⟨⟨p221, p222, p223, p224, p225, p226, p227, p228, p229, p230, p231⟩, hx232⟩ := hw215
                          obtain ⟨rfl, rfl, rfl⟩ := hx232
                          have Z197 : zz_S D A s [(mcl, .inl (kcl, 47, .inl c9174)), (mo, .inr (7, [.ref ms, .ref mi, .ref ma, .int 0, .ref mts, .ref mtz, .ref mtn, .ref mh, .ref mhn, .ref mhw, .ref mhz, .ref mhr, .ref mcl, .ref mtp, .int 0, .int 0, .int 0, .int 0, .int 0, .int 0, .int 0, .int 0, .int 0, .int 0, .int 0, .ref mna, .ref mpi, .ref mca, .ref mwa, .int 0, .ref mrd])), (ms, .inl (kms, 3047, .inl f9217))] [(kcl, .int), (kms, .int)] H194 locs195 := Z196
                          clear Z196
                          refine lv_iload hx hb dX7_best_108 (lv_at hl186 1 rfl) ?_
                          refine lv_iconst (v := 3) hx hb dX7_best_110 (by decide) ?_
                          refine lv_idiv hx hb dX7_best_111 (by decide) ?_
                          refine zz_v (v := nI (zz_pw t)) (zz_pw3 t (by omega)) ?_
                          refine lv_istore (lv' := [(7, .int (nI (zz_pw t))), (8, .int y191), (6, .int (nI i)), (5, .int 0), (4, .int (-1)), (3, .int 3), (0, .ref mo), (1, .int 2), (2, .int what)]) hx hb dX7_best_112 hl186 (by decide) rfl (fun ls198 hl199 => ?_)
                          clear hl186
                          refine lv_goto (tgt := 70) hx hb dX7_best_114 (by decide) ?_
                          have Z200 := Z197.sub (WS' := [(mo, .inr (7, [.ref ms, .ref mi, .ref ma, .int 0, .ref mts, .ref mtz, .ref mtn, .ref mh, .ref mhn, .ref mhw, .ref mhz, .ref mhr, .ref mcl, .ref mtp, .int 0, .int 0, .int 0, .int 0, .int 0, .int 0, .int 0, .int 0, .int 0, .int 0, .int 0, .ref mna, .ref mpi, .ref mca, .ref mwa, .int 0, .ref mrd])), (ms, .inl (kms, 3047, .inl f9217)), (mcl, .inl (kcl, 47, .inl c9174))]) (TYS' := [(kms, .int), (kcl, .int)]) [1, 2, 0] [1, 0] (by decide +kernel) rfl rfl
                          clear Z197
                          exact iht (by omega) f9217 (v2 + 1) (zz_bT v5 v6 10) (zz_bZ v6 10) (zz_mF v7 (-1) v6 3 10) ⟨p221, p222, p223, p224, p225, p226, p227, p228, p229, p230, p231⟩ _ _ _ Z200 (lv_sub hl199 [0, 2, 3, 4, 5, 6, 7, 8] rfl)
                      · refine lv_iconst (v := 0) hx hb dX7_best_90 (by decide) ?_
                        refine lv_goto (tgt := 105) hx hb dX7_best_91 (by decide) ?_
                        refine zz_cv (WC := [(mo, .inr (7, [.ref ms, .ref mi, .ref ma, .int 0, .ref mts, .ref mtz, .ref mtn, .ref mh, .ref mhn, .ref mhw, .ref mhz, .ref mhr, .ref mcl, .ref mtp, .int 0, .int 0, .int 0, .int 0, .int 0, .int 0, .int 0, .int 0, .int 0, .int 0, .int 0, .ref mna, .ref mpi, .ref mca, .ref mwa, .int 0, .ref mrd])), (ms, .inl (kms, 3047, .inl vf))]) (TC := [(kms, .int)]) (WR := [(mcl, .inl (kcl, 47, .inl c9174))]) (TR := [(kcl, .int)]) (k := 0) (n := 0) Z182 [0, 1] [2] [0] [1] rfl rfl (by decide +kernel) (by decide +kernel) (by decide +kernel) rfl rfl (fun Zc => va_runV (As := [.int 0]) (rest := []) X (c7_goesOnBy l D mo ms mi ma mts mtz mtn mh mhn mhw mhz mhr mcl mtp mna mpi mca mwa mrd 0 0 0 0 0 0 0 0 0 0 0 0 0 kms vf 0 v2 0 0 v5 v6 v7 3 10 0 0 hin.1 hin.2.1 hin.2.2.1 hin.2.2.2.1 hin.2.2.2.2.1 hin.2.2.2.2.2.1 hin.2.2.2.2.2.2.1 hin.2.2.2.2.2.2.2.1 hin.2.2.2.2.2.2.2.2.1 hin.2.2.2.2.2.2.2.2.2.1 hin.2.2.2.2.2.2.2.2.2.2 H179.size) (cwV 1 hts gX7_best_X7_goesOnBy rfl rfl rfl ⟨rfl, zh_X7_goesOnBy⟩ ⟨Nat.le_of_ble_eq_true rfl, Nat.le_of_ble_eq_true rfl⟩) (zz_pV (ci := 7) Zc 0 rfl rfl) rfl rfl hl186.1 rfl (lv_room (Nat.le_of_ble_eq_true rfl)) dX7_best_105 ⟨Nat.le_of_ble_eq_true rfl, Nat.le_of_ble_eq_true rfl⟩) rfl rfl (fun u233 H201 locs202 hw234 Z203 => ?_)
                        clear Z182
                        obtain ⟨f9236, F9237, T9238, Z9239⟩ := u233
                        try dsimp only at hw234 Z203
                        obtain ⟨⟨p240, p241, p242, p243, p244, p245, p246, p247, p248, p249, p250⟩, hx251⟩ := hw234
                        obtain ⟨rfl, rfl, rfl⟩ := hx251
                        have Z204 : zz_S D A s [(mcl, .inl (kcl, 47, .inl c9174)), (mo, .inr (7, [.ref ms, .ref mi, .ref ma, .int 0, .ref mts, .ref mtz, .ref mtn, .ref mh, .ref mhn, .ref mhw, .ref mhz, .ref mhr, .ref mcl, .ref mtp, .int 0, .int 0, .int 0, .int 0, .int 0, .int 0, .int 0, .int 0, .int 0, .int 0, .int 0, .ref mna, .ref mpi, .ref mca, .ref mwa, .int 0, .ref mrd])), (ms, .inl (kms, 3047, .inl f9236))] [(kcl, .int), (kms, .int)] H201 locs202 := Z203
                        clear Z203
                        refine lv_iload hx hb dX7_best_108 (lv_at hl186 1 rfl) ?_
                        refine lv_iconst (v := 3) hx hb dX7_best_110 (by decide) ?_
                        refine lv_idiv hx hb dX7_best_111 (by decide) ?_
                        refine zz_v (v := nI (zz_pw t)) (zz_pw3 t (by omega)) ?_
                        refine lv_istore (lv' := [(7, .int (nI (zz_pw t))), (8, .int y191), (6, .int (nI i)), (5, .int 0), (4, .int (-1)), (3, .int 3), (0, .ref mo), (1, .int 2), (2, .int what)]) hx hb dX7_best_112 hl186 (by decide) rfl (fun ls205 hl206 => ?_)
                        clear hl186
                        refine lv_goto (tgt := 70) hx hb dX7_best_114 (by decide) ?_
                        have Z207 := Z204.sub (WS' := [(mo, .inr (7, [.ref ms, .ref mi, .ref ma, .int 0, .ref mts, .ref mtz, .ref mtn, .ref mh, .ref mhn, .ref mhw, .ref mhz, .ref mhr, .ref mcl, .ref mtp, .int 0, .int 0, .int 0, .int 0, .int 0, .int 0, .int 0, .int 0, .int 0, .int 0, .int 0, .ref mna, .ref mpi, .ref mca, .ref mwa, .int 0, .ref mrd])), (ms, .inl (kms, 3047, .inl f9236)), (mcl, .inl (kcl, 47, .inl c9174))]) (TYS' := [(kms, .int), (kcl, .int)]) [1, 2, 0] [1, 0] (by decide +kernel) rfl rfl
                        clear Z204
                        exact iht (by omega) f9236 (v2 + 1) (zz_bT v5 v6 10) (zz_bZ v6 10) (zz_mF v7 0 v6 3 10) ⟨p240, p241, p242, p243, p244, p245, p246, p247, p248, p249, p250⟩ _ _ _ Z207 (lv_sub hl206 [0, 2, 3, 4, 5, 6, 7, 8] rfl)
                exact inner 2 (by decide) vf 0 0 1 0 ⟨hinv.1, hinv.2.1, hinv.2.2.1, hinv.2.2.2.1, hinv.2.2.2.2.1, hinv.2.2.2.2.2.1, hinv.2.2.2.2.2.2.1, hinv.2.2.2.2.2.2.2.1, hinv.2.2.2.2.2.2.2.2.1, hinv.2.2.2.2.2.2.2.2.2.1, hinv.2.2.2.2.2.2.2.2.2.2.1⟩ _ _ _ Z157 hl160
              · subst hv
                refine lv_iload hx hb dX7_best_59 (lv_at hl158 0 rfl) ?_
                refine lv_iconst (v := 3) hx hb dX7_best_61 (by decide) ?_
                refine lv_iload_n hx hb dX7_best_62 rfl (lv_at hl158 3 rfl) ?_
                refine lv_imul hx hb dX7_best_63 ?_
                refine zz_v (v := 9) (by decide) ?_
                refine lv_icmp_ge (tgt := 155) hx hb dX7_best_64 (by decide) (fun h => absurd h (nI_ge (a := i) (b := 9) (by omega) (by omega))) (fun _ => ?_)
                refine lv_iload_n hx hb dX7_best_67 rfl (lv_at hl158 3 rfl) ?_
                refine lv_istore (lv' := [(7, .int 3), (6, .int (nI i)), (5, .int 0), (4, .int 0), (3, .int 3), (0, .ref mo), (1, .int 2), (2, .int what)]) hx hb dX7_best_68 hl158 (by decide) rfl (fun ls208 hl209 => ?_)
                clear hl158
                have inner : ∀ (t : Nat), t ≤ 5 → ∀ (vf : Nat → Int32) (v2 v5 v6 v7 : Int32), vf 0 = 0 ∧ vf 1 = 0 ∧ vf 2 = v2 ∧ vf 3 = 0 ∧ vf 4 = 0 ∧ vf 5 = v5 ∧ vf 6 = v6 ∧ vf 7 = v7 ∧ vf 8 = 3 ∧ vf 9 = 10 ∧ vf 10 = 0 → ∀ (Hq : Heap) (Lq : List Loc) (lq : Array Slot), zz_S D A s [(mo, .inr (7, [.ref ms, .ref mi, .ref ma, .int 0, .ref mts, .ref mtz, .ref mtn, .ref mh, .ref mhn, .ref mhw, .ref mhz, .ref mhr, .ref mcl, .ref mtp, .int 0, .int 0, .int 0, .int 0, .int 0, .int 0, .int 0, .int 0, .int 0, .int 0, .int 0, .ref mna, .ref mpi, .ref mca, .ref mwa, .int 0, .ref mrd])), (ms, .inl (kms, 3047, .inl vf)), (mcl, .inl (kcl, 47, .inl c9174))] [(kms, .int), (kcl, .int)] Hq Lq → lv_has lq 9 [(7, .int (nI (zz_pw t))), (6, .int (nI i)), (5, .int 0), (4, .int 0), (3, .int 3), (0, .ref mo), (1, .int 2), (2, .int what)] → W p l e (headSpec wsX7_best { frames := 3, cells := 0, slots := 0, locals := 64 }).room s m (List.toArray [.ref mo, .int 2, .int what]) below meth c Hq Lq 0 0 (MQ below (va_Qi (fun (r : Int32) (u : Unit) => r = sp_best 2 what) (fun u t => zz_B D A ((fun (u : Unit) => []) u) ((fun (u : Unit) => []) u) t) A) (List.toArray [.ref mo, .int 2, .int what]) s 0 0 A) (F0 m 70 lq []) := by
                  intro t
                  induction t with
                  | zero =>
                      intro ht vf v2 v5 v6 v7 hin H210 locs211 ls212 Z213 hl214
                      have hl215 : lv_has ls212 9 [(7, .int 0), (6, .int (nI i)), (5, .int 0), (4, .int 0), (3, .int 3), (0, .ref mo), (1, .int 2), (2, .int what)] := hl214
                      clear hl214
                      refine lv_iload hx hb dX7_best_70 (lv_at hl215 0 rfl) ?_
                      refine lv_if_le (tgt := 117) hx hb dX7_best_72 (by decide) (fun _ => ?_) (fun h => absurd (by decide) h)
                      refine lv_aload_n hx hb dX7_best_117 rfl (lv_at hl215 5 rfl) ?_
                      refine zz_get X Z213 0 rfl rfl (fun w h => List.mem_cons_of_mem _ (List.mem_append_right _ h)) 0 rfl (zz_m 3 rfl) rfl dX7_best_118 ?_
                      refine lv_iconst (v := 4) hx hb dX7_best_121 (by decide) ?_
                      refine zz_ild X Z213 1 0 rfl rfl (zz_in 4 3047 rfl) dX7_best_122 ?_
                      refine zz_v (v := 0) hin.2.2.2.2.1 ?_
                      refine lv_istore (lv' := [(7, .int 0), (6, .int (nI i)), (5, .int 0), (4, .int 0), (3, .int 3), (0, .ref mo), (1, .int 2), (2, .int what)]) hx hb dX7_best_123 hl215 (by decide) rfl (fun ls216 hl217 => ?_)
                      clear hl215
                      refine lv_aload_n hx hb dX7_best_125 rfl (lv_at hl217 5 rfl) ?_
                      refine zz_cv (WC := [(mo, .inr (7, [.ref ms, .ref mi, .ref ma, .int 0, .ref mts, .ref mtz, .ref mtn, .ref mh, .ref mhn, .ref mhw, .ref mhz, .ref mhr, .ref mcl, .ref mtp, .int 0, .int 0, .int 0, .int 0, .int 0, .int 0, .int 0, .int 0, .int 0, .int 0, .int 0, .ref mna, .ref mpi, .ref mca, .ref mwa, .int 0, .ref mrd])), (ms, .inl (kms, 3047, .inl vf)), (mcl, .inl (kcl, 47, .inl c9174))]) (TC := [(kms, .int), (kcl, .int)]) (WR := []) (TR := []) (k := 0) (n := 0) Z213 [0, 1, 2] [] [0, 1] [] rfl rfl (by decide +kernel) (by decide +kernel) (by decide +kernel) rfl rfl (fun Zc => va_runV (As := []) (rest := []) X (c7_laysBack l D mo ms mi ma mts mtz mtn mh mhn mhw mhz mhr mcl mtp mna mpi mca mwa mrd 0 0 0 0 0 0 0 0 0 0 0 0 0 kms vf kcl c9174 H210.size) (cwV 0 hts gX7_best_X7_laysBack rfl rfl rfl ⟨rfl, zh_X7_laysBack⟩ ⟨Nat.le_of_ble_eq_true rfl, Nat.le_of_ble_eq_true rfl⟩) (zz_pV (ci := 7) Zc 0 rfl rfl) rfl rfl hl217.1 rfl (lv_room (Nat.le_of_ble_eq_true rfl)) dX7_best_126 ⟨Nat.le_of_ble_eq_true rfl, Nat.le_of_ble_eq_true rfl⟩) rfl rfl (fun u252 H218 locs219 hw253 Z220 => ?_)
                      clear Z213
                      obtain ⟨f9255, rfl⟩ : ∃ z, z = u252 := ⟨_, rfl⟩
                      try dsimp only at hw253 Z220
                      have Z221 : zz_S D A s [(mo, .inr (7, [.ref ms, .ref mi, .ref ma, .int 0, .ref mts, .ref mtz, .ref mtn, .ref mh, .ref mhn, .ref mhw, .ref mhz, .ref mhr, .ref mcl, .ref mtp, .int 0, .int 0, .int 0, .int 0, .int 0, .int 0, .int 0, .int 0, .int 0, .int 0, .int 0, .ref mna, .ref mpi, .ref mca, .ref mwa, .int 0, .ref mrd])), (ms, .inl (kms, 3047, .inl f9255)), (mcl, .inl (kcl, 47, .inl c9174))] [(kms, .int), (kcl, .int)] H218 locs219 := Z220
                      clear Z220
                      have p256 : f9255 0 = 0 := (hw253 0 (by decide)).trans ((hw172 0 (by decide)).trans af_0)
                      have p257 : f9255 1 = 0 := (hw253 1 (by decide)).trans ((hw172 1 (by decide)).trans af_1)
                      have p258 : f9255 2 = 0 := (hw253 2 (by decide)).trans ((hw172 2 (by decide)).trans af_2)
                      have p259 : f9255 3 = 0 := (hw253 3 (by decide)).trans ((hw172 3 (by decide)).trans af_3)
                      have p260 : f9255 4 = 0 := (hw253 4 (by decide)).trans ((hw172 4 (by decide)).trans af_4)
                      have p261 : f9255 5 = 0 := (hw253 5 (by decide)).trans ((hw172 5 (by decide)).trans af_5)
                      have p262 : f9255 6 = 1 := (hw253 6 (by decide)).trans ((hw172 6 (by decide)).trans af_6)
                      have p263 : f9255 7 = 0 := (hw253 7 (by decide)).trans ((hw172 7 (by decide)).trans af_7)
                      have p264 : f9255 8 = 3 := (hw253 8 (by decide)).trans ((hw172 8 (by decide)).trans af_8)
                      have p265 : f9255 9 = 10 := (hw253 9 (by decide)).trans ((hw172 9 (by decide)).trans af_9)
                      have p266 : f9255 10 = 0 := (hw253 10 (by decide)).trans ((hw172 10 (by decide)).trans af_10)
                      refine lv_iload hx hb dX7_best_129 (lv_at hl217 3 rfl) ?_
                      refine lv_if_lt (tgt := 141) hx hb dX7_best_131 (by decide) (fun h => absurd h (by decide)) (fun _ => ?_)
                      refine lv_iload hx hb dX7_best_134 (lv_at hl217 0 rfl) ?_
                      refine lv_iload hx hb dX7_best_136 (lv_at hl217 2 rfl) ?_
                      refine lv_icmp_ge (tgt := 149) hx hb dX7_best_138 (by decide) (fun _ => ?_) (fun h => absurd (by decide) h)
                      refine lv_iinc (v := nI (i + 1)) (lv' := [(6, .int (nI (i + 1))), (7, .int 0), (5, .int 0), (4, .int 0), (3, .int 3), (0, .ref mo), (1, .int 2), (2, .int what)]) hx hb dX7_best_149 hl217 (k := 1) rfl (nI_1 i) (by decide) rfl (fun ls222 hl223 => ?_)
                      clear hl217
                      refine lv_goto (tgt := 59) hx hb dX7_best_152 (by decide) ?_
                      exact ih (i + 1) f9255 0 (by omega) ⟨p256, p257, p258, p259, p260, p261, p262, p263, p264, p265, p266, (Or.inr ⟨by omega, rfl⟩)⟩ _ _ _ Z221 (lv_sub hl223 [0, 2, 3, 4, 5, 6, 7] rfl)
                  | succ t iht =>
                      intro ht vf v2 v5 v6 v7 hin H224 locs225 ls226 Z227 hl228
                      have hl229 : lv_has ls226 9 [(7, .int (nI (zz_pw (t + 1)))), (6, .int (nI i)), (5, .int 0), (4, .int 0), (3, .int 3), (0, .ref mo), (1, .int 2), (2, .int what)] := hl228
                      clear hl228
                      refine lv_iload hx hb dX7_best_70 (lv_at hl229 0 rfl) ?_
                      refine lv_if_le (tgt := 117) hx hb dX7_best_72 (by decide) (fun h => absurd h (nI_nle (zz_pwP t (by omega)).1 (zz_pwP t (by omega)).2)) (fun _ => ?_)
                      refine lv_iload hx hb dX7_best_75 (lv_at hl229 1 rfl) ?_
                      refine lv_iload hx hb dX7_best_77 (lv_at hl229 0 rfl) ?_
                      refine lv_idiv hx hb dX7_best_79 (nI_ne0 (zz_pwP t (by omega)).1 (zz_pwP t (by omega)).2) ?_
                      refine lv_iconst (v := 3) hx hb dX7_best_80 (by decide) ?_
                      refine lv_irem hx hb dX7_best_81 (by decide) ?_
                      refine lv_topi (fun y267 ey268 => ?_)
                      refine lv_istore (lv' := [(8, .int y267), (7, .int (nI (zz_pw (t + 1)))), (6, .int (nI i)), (5, .int 0), (4, .int 0), (3, .int 3), (0, .ref mo), (1, .int 2), (2, .int what)]) hx hb dX7_best_82 hl229 (by decide) rfl (fun ls230 hl231 => ?_)
                      clear hl229
                      refine lv_aload_n hx hb dX7_best_84 rfl (lv_at hl231 6 rfl) ?_
                      refine lv_iload hx hb dX7_best_85 (lv_at hl231 0 rfl) ?_
                      refine lv_if_ne (tgt := 94) hx hb dX7_best_87 (by decide) (fun b269 => ?_) (fun b269 => ?_)
                      · refine lv_iload hx hb dX7_best_94 (lv_at hl231 0 rfl) ?_
                        refine lv_iconst (v := 1) hx hb dX7_best_96 (by decide) ?_
                        refine lv_icmp_ne (tgt := 104) hx hb dX7_best_97 (by decide) (fun b270 => ?_) (fun b270 => ?_)
                        · refine lv_iconst (v := 1) hx hb dX7_best_104 (by decide) ?_
                          refine zz_cv (WC := [(mo, .inr (7, [.ref ms, .ref mi, .ref ma, .int 0, .ref mts, .ref mtz, .ref mtn, .ref mh, .ref mhn, .ref mhw, .ref mhz, .ref mhr, .ref mcl, .ref mtp, .int 0, .int 0, .int 0, .int 0, .int 0, .int 0, .int 0, .int 0, .int 0, .int 0, .int 0, .ref mna, .ref mpi, .ref mca, .ref mwa, .int 0, .ref mrd])), (ms, .inl (kms, 3047, .inl vf))]) (TC := [(kms, .int)]) (WR := [(mcl, .inl (kcl, 47, .inl c9174))]) (TR := [(kcl, .int)]) (k := 0) (n := 0) Z227 [0, 1] [2] [0] [1] rfl rfl (by decide +kernel) (by decide +kernel) (by decide +kernel) rfl rfl (fun Zc => va_runV (As := [.int 1]) (rest := []) X (c7_goesOnBy l D mo ms mi ma mts mtz mtn mh mhn mhw mhz mhr mcl mtp mna mpi mca mwa mrd 0 0 0 0 0 0 0 0 0 0 0 0 0 kms vf 0 v2 0 0 v5 v6 v7 3 10 0 1 hin.1 hin.2.1 hin.2.2.1 hin.2.2.2.1 hin.2.2.2.2.1 hin.2.2.2.2.2.1 hin.2.2.2.2.2.2.1 hin.2.2.2.2.2.2.2.1 hin.2.2.2.2.2.2.2.2.1 hin.2.2.2.2.2.2.2.2.2.1 hin.2.2.2.2.2.2.2.2.2.2 H224.size) (cwV 1 hts gX7_best_X7_goesOnBy rfl rfl rfl ⟨rfl, zh_X7_goesOnBy⟩ ⟨Nat.le_of_ble_eq_true rfl, Nat.le_of_ble_eq_true rfl⟩) (zz_pV (ci := 7) Zc 0 rfl rfl) rfl rfl hl231.1 rfl (lv_room (Nat.le_of_ble_eq_true rfl)) dX7_best_105 ⟨Nat.le_of_ble_eq_true rfl, Nat.le_of_ble_eq_true rfl⟩) rfl rfl (fun u271 H232 locs233 hw272 Z234 => ?_)
                          clear Z227
                          obtain ⟨f9274, F9275, T9276, Z9277⟩ := u271
                          try dsimp only at hw272 Z234
                          obtain ⟨⟨p278, p279, p280, p281, p282, p283, p284, p285, p286, p287, p288⟩, hx289⟩ := hw272
                          obtain ⟨rfl, rfl, rfl⟩ := hx289
                          have Z235 : zz_S D A s [(mcl, .inl (kcl, 47, .inl c9174)), (mo, .inr (7, [.ref ms, .ref mi, .ref ma, .int 0, .ref mts, .ref mtz, .ref mtn, .ref mh, .ref mhn, .ref mhw, .ref mhz, .ref mhr, .ref mcl, .ref mtp, .int 0, .int 0, .int 0, .int 0, .int 0, .int 0, .int 0, .int 0, .int 0, .int 0, .int 0, .ref mna, .ref mpi, .ref mca, .ref mwa, .int 0, .ref mrd])), (ms, .inl (kms, 3047, .inl f9274))] [(kcl, .int), (kms, .int)] H232 locs233 := Z234
                          clear Z234
                          refine lv_iload hx hb dX7_best_108 (lv_at hl231 1 rfl) ?_
                          refine lv_iconst (v := 3) hx hb dX7_best_110 (by decide) ?_
                          refine lv_idiv hx hb dX7_best_111 (by decide) ?_
                          refine zz_v (v := nI (zz_pw t)) (zz_pw3 t (by omega)) ?_
                          refine lv_istore (lv' := [(7, .int (nI (zz_pw t))), (8, .int y267), (6, .int (nI i)), (5, .int 0), (4, .int 0), (3, .int 3), (0, .ref mo), (1, .int 2), (2, .int what)]) hx hb dX7_best_112 hl231 (by decide) rfl (fun ls236 hl237 => ?_)
                          clear hl231
                          refine lv_goto (tgt := 70) hx hb dX7_best_114 (by decide) ?_
                          have Z238 := Z235.sub (WS' := [(mo, .inr (7, [.ref ms, .ref mi, .ref ma, .int 0, .ref mts, .ref mtz, .ref mtn, .ref mh, .ref mhn, .ref mhw, .ref mhz, .ref mhr, .ref mcl, .ref mtp, .int 0, .int 0, .int 0, .int 0, .int 0, .int 0, .int 0, .int 0, .int 0, .int 0, .int 0, .ref mna, .ref mpi, .ref mca, .ref mwa, .int 0, .ref mrd])), (ms, .inl (kms, 3047, .inl f9274)), (mcl, .inl (kcl, 47, .inl c9174))]) (TYS' := [(kms, .int), (kcl, .int)]) [1, 2, 0] [1, 0] (by decide +kernel) rfl rfl
                          clear Z235
                          exact iht (by omega) f9274 (v2 + 1) (zz_bT v5 v6 10) (zz_bZ v6 10) (zz_mF v7 1 v6 3 10) ⟨p278, p279, p280, p281, p282, p283, p284, p285, p286, p287, p288⟩ _ _ _ Z238 (lv_sub hl237 [0, 2, 3, 4, 5, 6, 7, 8] rfl)
                        · refine lv_iconst (v := (-1)) hx hb dX7_best_100 (by decide) ?_
                          refine lv_goto (tgt := 105) hx hb dX7_best_101 (by decide) ?_
                          refine zz_cv (WC := [(mo, .inr (7, [.ref ms, .ref mi, .ref ma, .int 0, .ref mts, .ref mtz, .ref mtn, .ref mh, .ref mhn, .ref mhw, .ref mhz, .ref mhr, .ref mcl, .ref mtp, .int 0, .int 0, .int 0, .int 0, .int 0, .int 0, .int 0, .int 0, .int 0, .int 0, .int 0, .ref mna, .ref mpi, .ref mca, .ref mwa, .int 0, .ref mrd])), (ms, .inl (kms, 3047, .inl vf))]) (TC := [(kms, .int)]) (WR := [(mcl, .inl (kcl, 47, .inl c9174))]) (TR := [(kcl, .int)]) (k := 0) (n := 0) Z227 [0, 1] [2] [0] [1] rfl rfl (by decide +kernel) (by decide +kernel) (by decide +kernel) rfl rfl (fun Zc => va_runV (As := [.int (-1)]) (rest := []) X (c7_goesOnBy l D mo ms mi ma mts mtz mtn mh mhn mhw mhz mhr mcl mtp mna mpi mca mwa mrd 0 0 0 0 0 0 0 0 0 0 0 0 0 kms vf 0 v2 0 0 v5 v6 v7 3 10 0 (-1) hin.1 hin.2.1 hin.2.2.1 hin.2.2.2.1 hin.2.2.2.2.1 hin.2.2.2.2.2.1 hin.2.2.2.2.2.2.1 hin.2.2.2.2.2.2.2.1 hin.2.2.2.2.2.2.2.2.1 hin.2.2.2.2.2.2.2.2.2.1 hin.2.2.2.2.2.2.2.2.2.2 H224.size) (cwV 1 hts gX7_best_X7_goesOnBy rfl rfl rfl ⟨rfl, zh_X7_goesOnBy⟩ ⟨Nat.le_of_ble_eq_true rfl, Nat.le_of_ble_eq_true rfl⟩) (zz_pV (ci := 7) Zc 0 rfl rfl) rfl rfl hl231.1 rfl (lv_room (Nat.le_of_ble_eq_true rfl)) dX7_best_105 ⟨Nat.le_of_ble_eq_true rfl, Nat.le_of_ble_eq_true rfl⟩) rfl rfl (fun u290 H239 locs240 hw291 Z241 => ?_)
                          clear Z227
                          obtain ⟨f9293, F9294, T9295, Z9296⟩ := u290
                          try dsimp only at hw291 Z241
                          obtain ⟨⟨p297, p298, p299, p300, p301, p302, p303, p304, p305, p306, p307⟩, hx308⟩ := hw291
                          obtain ⟨rfl, rfl, rfl⟩ := hx308
                          have Z242 : zz_S D A s [(mcl, .inl (kcl, 47, .inl c9174)), (mo, .inr (7, [.ref ms, .ref mi, .ref ma, .int 0, .ref mts, .ref mtz, .ref mtn, .ref mh, .ref mhn, .ref mhw, .ref mhz, .ref mhr, .ref mcl, .ref mtp, .int 0, .int 0, .int 0, .int 0, .int 0, .int 0, .int 0, .int 0, .int 0, .int 0, .int 0, .ref mna, .ref mpi, .ref mca, .ref mwa, .int 0, .ref mrd])), (ms, .inl (kms, 3047, .inl f9293))] [(kcl, .int), (kms, .int)] H239 locs240 := Z241
                          clear Z241
                          refine lv_iload hx hb dX7_best_108 (lv_at hl231 1 rfl) ?_
                          refine lv_iconst (v := 3) hx hb dX7_best_110 (by decide) ?_
                          refine lv_idiv hx hb dX7_best_111 (by decide) ?_
                          refine zz_v (v := nI (zz_pw t)) (zz_pw3 t (by omega)) ?_
                          refine lv_istore (lv' := [(7, .int (nI (zz_pw t))), (8, .int y267), (6, .int (nI i)), (5, .int 0), (4, .int 0), (3, .int 3), (0, .ref mo), (1, .int 2), (2, .int what)]) hx hb dX7_best_112 hl231 (by decide) rfl (fun ls243 hl244 => ?_)
                          clear hl231
                          refine lv_goto (tgt := 70) hx hb dX7_best_114 (by decide) ?_
                          have Z245 := Z242.sub (WS' := [(mo, .inr (7, [.ref ms, .ref mi, .ref ma, .int 0, .ref mts, .ref mtz, .ref mtn, .ref mh, .ref mhn, .ref mhw, .ref mhz, .ref mhr, .ref mcl, .ref mtp, .int 0, .int 0, .int 0, .int 0, .int 0, .int 0, .int 0, .int 0, .int 0, .int 0, .int 0, .ref mna, .ref mpi, .ref mca, .ref mwa, .int 0, .ref mrd])), (ms, .inl (kms, 3047, .inl f9293)), (mcl, .inl (kcl, 47, .inl c9174))]) (TYS' := [(kms, .int), (kcl, .int)]) [1, 2, 0] [1, 0] (by decide +kernel) rfl rfl
                          clear Z242
                          exact iht (by omega) f9293 (v2 + 1) (zz_bT v5 v6 10) (zz_bZ v6 10) (zz_mF v7 (-1) v6 3 10) ⟨p297, p298, p299, p300, p301, p302, p303, p304, p305, p306, p307⟩ _ _ _ Z245 (lv_sub hl244 [0, 2, 3, 4, 5, 6, 7, 8] rfl)
                      · refine lv_iconst (v := 0) hx hb dX7_best_90 (by decide) ?_
                        refine lv_goto (tgt := 105) hx hb dX7_best_91 (by decide) ?_
                        refine zz_cv (WC := [(mo, .inr (7, [.ref ms, .ref mi, .ref ma, .int 0, .ref mts, .ref mtz, .ref mtn, .ref mh, .ref mhn, .ref mhw, .ref mhz, .ref mhr, .ref mcl, .ref mtp, .int 0, .int 0, .int 0, .int 0, .int 0, .int 0, .int 0, .int 0, .int 0, .int 0, .int 0, .ref mna, .ref mpi, .ref mca, .ref mwa, .int 0, .ref mrd])), (ms, .inl (kms, 3047, .inl vf))]) (TC := [(kms, .int)]) (WR := [(mcl, .inl (kcl, 47, .inl c9174))]) (TR := [(kcl, .int)]) (k := 0) (n := 0) Z227 [0, 1] [2] [0] [1] rfl rfl (by decide +kernel) (by decide +kernel) (by decide +kernel) rfl rfl (fun Zc => va_runV (As := [.int 0]) (rest := []) X (c7_goesOnBy l D mo ms mi ma mts mtz mtn mh mhn mhw mhz mhr mcl mtp mna mpi mca mwa mrd 0 0 0 0 0 0 0 0 0 0 0 0 0 kms vf 0 v2 0 0 v5 v6 v7 3 10 0 0 hin.1 hin.2.1 hin.2.2.1 hin.2.2.2.1 hin.2.2.2.2.1 hin.2.2.2.2.2.1 hin.2.2.2.2.2.2.1 hin.2.2.2.2.2.2.2.1 hin.2.2.2.2.2.2.2.2.1 hin.2.2.2.2.2.2.2.2.2.1 hin.2.2.2.2.2.2.2.2.2.2 H224.size) (cwV 1 hts gX7_best_X7_goesOnBy rfl rfl rfl ⟨rfl, zh_X7_goesOnBy⟩ ⟨Nat.le_of_ble_eq_true rfl, Nat.le_of_ble_eq_true rfl⟩) (zz_pV (ci := 7) Zc 0 rfl rfl) rfl rfl hl231.1 rfl (lv_room (Nat.le_of_ble_eq_true rfl)) dX7_best_105 ⟨Nat.le_of_ble_eq_true rfl, Nat.le_of_ble_eq_true rfl⟩) rfl rfl (fun u309 H246 locs247 hw310 Z248 => ?_)
                        clear Z227
                        obtain ⟨f9312, F9313, T9314, Z9315⟩ := u309
                        try dsimp only at hw310 Z248
                        obtain ⟨⟨p316, p317, p318, p319, p320, p321, p322, p323, p324, p325, p326⟩, hx327⟩ := hw310
                        obtain ⟨rfl, rfl, rfl⟩ := hx327
                        have Z249 : zz_S D A s [(mcl, .inl (kcl, 47, .inl c9174)), (mo, .inr (7, [.ref ms, .ref mi, .ref ma, .int 0, .ref mts, .ref mtz, .ref mtn, .ref mh, .ref mhn, .ref mhw, .ref mhz, .ref mhr, .ref mcl, .ref mtp, .int 0, .int 0, .int 0, .int 0, .int 0, .int 0, .int 0, .int 0, .int 0, .int 0, .int 0, .ref mna, .ref mpi, .ref mca, .ref mwa, .int 0, .ref mrd])), (ms, .inl (kms, 3047, .inl f9312))] [(kcl, .int), (kms, .int)] H246 locs247 := Z248
                        clear Z248
                        refine lv_iload hx hb dX7_best_108 (lv_at hl231 1 rfl) ?_
                        refine lv_iconst (v := 3) hx hb dX7_best_110 (by decide) ?_
                        refine lv_idiv hx hb dX7_best_111 (by decide) ?_
                        refine zz_v (v := nI (zz_pw t)) (zz_pw3 t (by omega)) ?_
                        refine lv_istore (lv' := [(7, .int (nI (zz_pw t))), (8, .int y267), (6, .int (nI i)), (5, .int 0), (4, .int 0), (3, .int 3), (0, .ref mo), (1, .int 2), (2, .int what)]) hx hb dX7_best_112 hl231 (by decide) rfl (fun ls250 hl251 => ?_)
                        clear hl231
                        refine lv_goto (tgt := 70) hx hb dX7_best_114 (by decide) ?_
                        have Z252 := Z249.sub (WS' := [(mo, .inr (7, [.ref ms, .ref mi, .ref ma, .int 0, .ref mts, .ref mtz, .ref mtn, .ref mh, .ref mhn, .ref mhw, .ref mhz, .ref mhr, .ref mcl, .ref mtp, .int 0, .int 0, .int 0, .int 0, .int 0, .int 0, .int 0, .int 0, .int 0, .int 0, .int 0, .ref mna, .ref mpi, .ref mca, .ref mwa, .int 0, .ref mrd])), (ms, .inl (kms, 3047, .inl f9312)), (mcl, .inl (kcl, 47, .inl c9174))]) (TYS' := [(kms, .int), (kcl, .int)]) [1, 2, 0] [1, 0] (by decide +kernel) rfl rfl
                        clear Z249
                        exact iht (by omega) f9312 (v2 + 1) (zz_bT v5 v6 10) (zz_bZ v6 10) (zz_mF v7 0 v6 3 10) ⟨p316, p317, p318, p319, p320, p321, p322, p323, p324, p325, p326⟩ _ _ _ Z252 (lv_sub hl251 [0, 2, 3, 4, 5, 6, 7, 8] rfl)
                exact inner 2 (by decide) vf 0 0 1 0 ⟨hinv.1, hinv.2.1, hinv.2.2.1, hinv.2.2.2.1, hinv.2.2.2.2.1, hinv.2.2.2.2.2.1, hinv.2.2.2.2.2.2.1, hinv.2.2.2.2.2.2.2.1, hinv.2.2.2.2.2.2.2.2.1, hinv.2.2.2.2.2.2.2.2.2.1, hinv.2.2.2.2.2.2.2.2.2.2.1⟩ _ _ _ Z157 hl209
        exact loop 9 0 f (-1) (by omega) ⟨af_0, af_1, af_2, af_3, af_4, af_5, af_6, af_7, af_8, af_9, af_10, (Or.inl ⟨rfl, rfl⟩)⟩ _ _ _ Z142 hl148
      · refine zz_v (v := 0) (zz_wiF w170) ?_
        refine lv_if_ne (tgt := 25) hx hb dX7_best_19 (by decide) (fun h => absurd (by decide) h) (fun _ => ?_)
        refine lv_ldc (v := (-1000000001)) hx hb hown (hts _ (zz_m 2 rfl)) dX7_best_22 ?_
        exact zz_iret X hr hlk Z130 () (by simp [sp_best, w170]) [] [] (by decide +kernel) rfl rfl dX7_best_24
    · have e5 : n = 3 := e5
      subst e5
      refine zz_v (v := 1) (by decide) ?_
      refine lv_if_eq (tgt := 22) hx hb dX7_best_9 (by decide) (fun h => absurd h (by decide)) (fun _ => ?_)
      refine lv_iload_n hx hb dX7_best_12 rfl (lv_at hl 2 rfl) ?_
      refine lv_i2l (v := Int32.toInt64 what) hx hb dX7_best_13 rfl ?_
      refine lv_lconst (v := 0) hx hb dX7_best_14 (by decide) ?_
      refine zz_vl (v := Int32.toInt64 0) (by decide) ?_
      refine lv_lconst (v := 1) hx hb dX7_best_15 (by decide) ?_
      refine zz_vl (v := Int32.toInt64 1) (by decide) ?_
      refine zz_ci (WC := []) (TC := []) (WR := [(mo, .inr (7, [.ref ms, .ref mi, .ref ma, .int 0, .ref mts, .ref mtz, .ref mtn, .ref mh, .ref mhn, .ref mhw, .ref mhz, .ref mhr, .ref mcl, .ref mtp, .int 0, .int 0, .int 0, .int 0, .int 0, .int 0, .int 0, .int 0, .int 0, .int 0, .int 0, .ref mna, .ref mpi, .ref mca, .ref mwa, .int 0, .ref mrd])), (ms, .inl (kms, 3047, .inl f)), (mcl, .inl (kcl, 47, .inl cf))]) (TR := [(kms, .int), (kcl, .int)]) (k := 0) (n := 0) Z4 [] [0, 1, 2] [] [0, 1] rfl rfl (by decide +kernel) (by decide +kernel) (by decide +kernel) rfl rfl (fun Zc => va_runS (As := [.long (Int32.toInt64 what), .long (Int32.toInt64 0), .long (Int32.toInt64 1)]) (rest := []) X (c_isIn l D what 0 1 H1.size) (va_cwS 3 hts gX7_best_X7_isIn rfl rfl rfl zh_X7_isIn ⟨Nat.le_of_ble_eq_true rfl, Nat.le_of_ble_eq_true rfl⟩) (zz_pS Zc) rfl rfl hl.1 rfl (lv_room (Nat.le_of_ble_eq_true rfl)) dX7_best_16 ⟨Nat.le_of_ble_eq_true rfl, Nat.le_of_ble_eq_true rfl⟩) rfl rfl (fun r330 u328 H253 locs254 hw329 Z255 => ?_)
      clear Z4
      subst r330
      have Z256 : zz_S D A s [(mo, .inr (7, [.ref ms, .ref mi, .ref ma, .int 0, .ref mts, .ref mtz, .ref mtn, .ref mh, .ref mhn, .ref mhw, .ref mhz, .ref mhr, .ref mcl, .ref mtp, .int 0, .int 0, .int 0, .int 0, .int 0, .int 0, .int 0, .int 0, .int 0, .int 0, .int 0, .ref mna, .ref mpi, .ref mca, .ref mwa, .int 0, .ref mrd])), (ms, .inl (kms, 3047, .inl f)), (mcl, .inl (kcl, 47, .inl cf))] [(kms, .int), (kcl, .int)] H253 locs254 := Z255
      clear Z255
      by_cases w331 : 0 ≤ what ∧ what ≤ 1
      · refine zz_v (v := 1) (zz_wiT w331) ?_
        refine lv_if_ne (tgt := 25) hx hb dX7_best_19 (by decide) (fun _ => ?_) (fun h => absurd h (by decide))
        refine lv_iconst (v := 1) hx hb dX7_best_25 (by decide) ?_
        refine lv_istore_n (lv' := [(3, .int 1), (0, .ref mo), (1, .int 3), (2, .int what)]) hx hb dX7_best_26 rfl hl (by decide) rfl (fun ls257 hl258 => ?_)
        clear hl
        refine lv_iconst (v := 1) hx hb dX7_best_27 (by decide) ?_
        refine lv_istore (lv' := [(4, .int 1), (3, .int 1), (0, .ref mo), (1, .int 3), (2, .int what)]) hx hb dX7_best_28 hl258 (by decide) rfl (fun ls259 hl260 => ?_)
        clear hl258
        refine lv_iload hx hb dX7_best_30 (lv_at hl260 0 rfl) ?_
        refine lv_iload_n hx hb dX7_best_32 rfl (lv_at hl260 3 rfl) ?_
        refine lv_icmp_ge (tgt := 46) hx hb dX7_best_33 (by decide) (fun h => absurd h (by decide)) (fun _ => ?_)
        refine lv_iload_n hx hb dX7_best_36 rfl (lv_at hl260 1 rfl) ?_
        refine lv_iconst (v := 3) hx hb dX7_best_37 (by decide) ?_
        refine lv_imul hx hb dX7_best_38 ?_
        refine zz_v (v := 3) (by decide) ?_
        refine lv_istore_n (lv' := [(3, .int 3), (4, .int 1), (0, .ref mo), (1, .int 3), (2, .int what)]) hx hb dX7_best_39 rfl hl260 (by decide) rfl (fun ls261 hl262 => ?_)
        clear hl260
        refine lv_iinc (v := 2) (lv' := [(4, .int 2), (3, .int 3), (0, .ref mo), (1, .int 3), (2, .int what)]) hx hb dX7_best_40 hl262 (k := 1) rfl (by decide) (by decide) rfl (fun ls263 hl264 => ?_)
        clear hl262
        refine lv_goto (tgt := 30) hx hb dX7_best_43 (by decide) ?_
        refine lv_iload hx hb dX7_best_30 (lv_at hl264 0 rfl) ?_
        refine lv_iload_n hx hb dX7_best_32 rfl (lv_at hl264 3 rfl) ?_
        refine lv_icmp_ge (tgt := 46) hx hb dX7_best_33 (by decide) (fun h => absurd h (by decide)) (fun _ => ?_)
        refine lv_iload_n hx hb dX7_best_36 rfl (lv_at hl264 1 rfl) ?_
        refine lv_iconst (v := 3) hx hb dX7_best_37 (by decide) ?_
        refine lv_imul hx hb dX7_best_38 ?_
        refine zz_v (v := 9) (by decide) ?_
        refine lv_istore_n (lv' := [(3, .int 9), (4, .int 2), (0, .ref mo), (1, .int 3), (2, .int what)]) hx hb dX7_best_39 rfl hl264 (by decide) rfl (fun ls265 hl266 => ?_)
        clear hl264
        refine lv_iinc (v := 3) (lv' := [(4, .int 3), (3, .int 9), (0, .ref mo), (1, .int 3), (2, .int what)]) hx hb dX7_best_40 hl266 (k := 1) rfl (by decide) (by decide) rfl (fun ls267 hl268 => ?_)
        clear hl266
        refine lv_goto (tgt := 30) hx hb dX7_best_43 (by decide) ?_
        refine lv_iload hx hb dX7_best_30 (lv_at hl268 0 rfl) ?_
        refine lv_iload_n hx hb dX7_best_32 rfl (lv_at hl268 3 rfl) ?_
        refine lv_icmp_ge (tgt := 46) hx hb dX7_best_33 (by decide) (fun _ => ?_) (fun h => absurd (by decide) h)
        refine lv_aload_n hx hb dX7_best_46 rfl (lv_at hl268 2 rfl) ?_
        refine zz_cv (WC := [(mo, .inr (7, [.ref ms, .ref mi, .ref ma, .int 0, .ref mts, .ref mtz, .ref mtn, .ref mh, .ref mhn, .ref mhw, .ref mhz, .ref mhr, .ref mcl, .ref mtp, .int 0, .int 0, .int 0, .int 0, .int 0, .int 0, .int 0, .int 0, .int 0, .int 0, .int 0, .ref mna, .ref mpi, .ref mca, .ref mwa, .int 0, .ref mrd])), (ms, .inl (kms, 3047, .inl f)), (mcl, .inl (kcl, 47, .inl cf))]) (TC := [(kms, .int), (kcl, .int)]) (WR := []) (TR := []) (k := 0) (n := 0) Z256 [0, 1, 2] [] [0, 1] [] rfl rfl (by decide +kernel) (by decide +kernel) (by decide +kernel) rfl rfl (fun Zc => va_runV (As := []) (rest := []) X (c7_laysBy l D mo ms mi ma mts mtz mtn mh mhn mhw mhz mhr mcl mtp mna mpi mca mwa mrd 0 0 0 0 0 0 0 0 0 0 0 0 0 kms f kcl cf H253.size) (cwV 0 hts gX7_best_X7_laysBy rfl rfl rfl ⟨rfl, zh_X7_laysBy⟩ ⟨Nat.le_of_ble_eq_true rfl, Nat.le_of_ble_eq_true rfl⟩) (zz_pV (ci := 7) Zc 0 rfl rfl) rfl rfl hl268.1 rfl (lv_room (Nat.le_of_ble_eq_true rfl)) dX7_best_47 ⟨Nat.le_of_ble_eq_true rfl, Nat.le_of_ble_eq_true rfl⟩) rfl rfl (fun u332 H269 locs270 hw333 Z271 => ?_)
        clear Z256
        obtain ⟨c9335, rfl⟩ : ∃ z, z = u332 := ⟨_, rfl⟩
        try dsimp only at hw333 Z271
        have Z272 : zz_S D A s [(mo, .inr (7, [.ref ms, .ref mi, .ref ma, .int 0, .ref mts, .ref mtz, .ref mtn, .ref mh, .ref mhn, .ref mhw, .ref mhz, .ref mhr, .ref mcl, .ref mtp, .int 0, .int 0, .int 0, .int 0, .int 0, .int 0, .int 0, .int 0, .int 0, .int 0, .int 0, .ref mna, .ref mpi, .ref mca, .ref mwa, .int 0, .ref mrd])), (ms, .inl (kms, 3047, .inl f)), (mcl, .inl (kcl, 47, .inl c9335))] [(kms, .int), (kcl, .int)] H269 locs270 := Z271
        clear Z271
        refine lv_iconst (v := (-1)) hx hb dX7_best_50 (by decide) ?_
        refine lv_istore (lv' := [(4, .int (-1)), (3, .int 9), (0, .ref mo), (1, .int 3), (2, .int what)]) hx hb dX7_best_51 hl268 (by decide) rfl (fun ls273 hl274 => ?_)
        clear hl268
        refine lv_iconst (v := 0) hx hb dX7_best_53 (by decide) ?_
        refine lv_istore (lv' := [(5, .int 0), (4, .int (-1)), (3, .int 9), (0, .ref mo), (1, .int 3), (2, .int what)]) hx hb dX7_best_54 hl274 (by decide) rfl (fun ls275 hl276 => ?_)
        clear hl274
        refine lv_iconst (v := 0) hx hb dX7_best_56 (by decide) ?_
        refine lv_istore (lv' := [(6, .int 0), (5, .int 0), (4, .int (-1)), (3, .int 9), (0, .ref mo), (1, .int 3), (2, .int what)]) hx hb dX7_best_57 hl276 (by decide) rfl (fun ls277 hl278 => ?_)
        clear hl276
        have loop : ∀ (k i : Nat) (vf : Nat → Int32) (vb : Int32), i + k = 27 → (vf 0 = 0 ∧ vf 1 = 0 ∧ vf 2 = 0 ∧ vf 3 = 0 ∧ vf 4 = 0 ∧ vf 5 = 0 ∧ vf 6 = 1 ∧ vf 7 = 0 ∧ vf 8 = 3 ∧ vf 9 = 10 ∧ vf 10 = 0 ∧ ((i = 0 ∧ vb = -1) ∨ (0 < i ∧ vb = 0))) → ∀ (Hq : Heap) (Lq : List Loc) (lq : Array Slot), zz_S D A s [(mo, .inr (7, [.ref ms, .ref mi, .ref ma, .int 0, .ref mts, .ref mtz, .ref mtn, .ref mh, .ref mhn, .ref mhw, .ref mhz, .ref mhr, .ref mcl, .ref mtp, .int 0, .int 0, .int 0, .int 0, .int 0, .int 0, .int 0, .int 0, .int 0, .int 0, .int 0, .ref mna, .ref mpi, .ref mca, .ref mwa, .int 0, .ref mrd])), (ms, .inl (kms, 3047, .inl vf)), (mcl, .inl (kcl, 47, .inl c9335))] [(kms, .int), (kcl, .int)] Hq Lq → lv_has lq 9 [(6, .int (nI i)), (5, .int 0), (4, .int vb), (3, .int 9), (0, .ref mo), (1, .int 3), (2, .int what)] → W p l e (headSpec wsX7_best { frames := 3, cells := 0, slots := 0, locals := 64 }).room s m (List.toArray [.ref mo, .int 3, .int what]) below meth c Hq Lq 0 0 (MQ below (va_Qi (fun (r : Int32) (u : Unit) => r = sp_best 3 what) (fun u t => zz_B D A ((fun (u : Unit) => []) u) ((fun (u : Unit) => []) u) t) A) (List.toArray [.ref mo, .int 3, .int what]) s 0 0 A) (F0 m 59 lq []) := by
          intro k
          induction k with
          | zero =>
              intro i vf vb hik hinv H279 locs280 ls281 Z282 hl283
              rcases hinv.2.2.2.2.2.2.2.2.2.2.2 with ⟨h0, hv⟩ | ⟨h0, hv⟩
              · omega
              subst hv
              refine lv_iload hx hb dX7_best_59 (lv_at hl283 0 rfl) ?_
              refine lv_iconst (v := 3) hx hb dX7_best_61 (by decide) ?_
              refine lv_iload_n hx hb dX7_best_62 rfl (lv_at hl283 3 rfl) ?_
              refine lv_imul hx hb dX7_best_63 ?_
              refine zz_v (v := 27) (by decide) ?_
              refine lv_icmp_ge (tgt := 155) hx hb dX7_best_64 (by decide) (fun _ => ?_) (fun h => absurd (nI_le (a := 27) (b := i) (by omega) (by omega)) h)
              refine lv_iload_n hx hb dX7_best_155 rfl (lv_at hl283 6 rfl) ?_
              refine lv_if_ne (tgt := 164) hx hb dX7_best_156 (by decide) (fun b336 => ?_) (fun b336 => ?_)
              · refine lv_iload hx hb dX7_best_164 (lv_at hl283 1 rfl) ?_
                exact zz_iret X hr hlk Z282 () (by simp [sp_best, w331]) [] [] (by decide +kernel) rfl rfl dX7_best_166
              · refine lv_iload hx hb dX7_best_159 (lv_at hl283 2 rfl) ?_
                refine lv_goto (tgt := 166) hx hb dX7_best_161 (by decide) ?_
                exact zz_iret X hr hlk Z282 () (by simp [sp_best, w331]) [] [] (by decide +kernel) rfl rfl dX7_best_166
          | succ k ih =>
              intro i vf vb hik hinv H284 locs285 ls286 Z287 hl288
              rcases hinv.2.2.2.2.2.2.2.2.2.2.2 with ⟨h0, hv⟩ | ⟨h0, hv⟩
              · subst hv
                refine lv_iload hx hb dX7_best_59 (lv_at hl288 0 rfl) ?_
                refine lv_iconst (v := 3) hx hb dX7_best_61 (by decide) ?_
                refine lv_iload_n hx hb dX7_best_62 rfl (lv_at hl288 3 rfl) ?_
                refine lv_imul hx hb dX7_best_63 ?_
                refine zz_v (v := 27) (by decide) ?_
                refine lv_icmp_ge (tgt := 155) hx hb dX7_best_64 (by decide) (fun h => absurd h (nI_ge (a := i) (b := 27) (by omega) (by omega))) (fun _ => ?_)
                refine lv_iload_n hx hb dX7_best_67 rfl (lv_at hl288 3 rfl) ?_
                refine lv_istore (lv' := [(7, .int 9), (6, .int (nI i)), (5, .int 0), (4, .int (-1)), (3, .int 9), (0, .ref mo), (1, .int 3), (2, .int what)]) hx hb dX7_best_68 hl288 (by decide) rfl (fun ls289 hl290 => ?_)
                clear hl288
                have inner : ∀ (t : Nat), t ≤ 5 → ∀ (vf : Nat → Int32) (v2 v5 v6 v7 : Int32), vf 0 = 0 ∧ vf 1 = 0 ∧ vf 2 = v2 ∧ vf 3 = 0 ∧ vf 4 = 0 ∧ vf 5 = v5 ∧ vf 6 = v6 ∧ vf 7 = v7 ∧ vf 8 = 3 ∧ vf 9 = 10 ∧ vf 10 = 0 → ∀ (Hq : Heap) (Lq : List Loc) (lq : Array Slot), zz_S D A s [(mo, .inr (7, [.ref ms, .ref mi, .ref ma, .int 0, .ref mts, .ref mtz, .ref mtn, .ref mh, .ref mhn, .ref mhw, .ref mhz, .ref mhr, .ref mcl, .ref mtp, .int 0, .int 0, .int 0, .int 0, .int 0, .int 0, .int 0, .int 0, .int 0, .int 0, .int 0, .ref mna, .ref mpi, .ref mca, .ref mwa, .int 0, .ref mrd])), (ms, .inl (kms, 3047, .inl vf)), (mcl, .inl (kcl, 47, .inl c9335))] [(kms, .int), (kcl, .int)] Hq Lq → lv_has lq 9 [(7, .int (nI (zz_pw t))), (6, .int (nI i)), (5, .int 0), (4, .int (-1)), (3, .int 9), (0, .ref mo), (1, .int 3), (2, .int what)] → W p l e (headSpec wsX7_best { frames := 3, cells := 0, slots := 0, locals := 64 }).room s m (List.toArray [.ref mo, .int 3, .int what]) below meth c Hq Lq 0 0 (MQ below (va_Qi (fun (r : Int32) (u : Unit) => r = sp_best 3 what) (fun u t => zz_B D A ((fun (u : Unit) => []) u) ((fun (u : Unit) => []) u) t) A) (List.toArray [.ref mo, .int 3, .int what]) s 0 0 A) (F0 m 70 lq []) := by
                  intro t
                  induction t with
                  | zero =>
                      intro ht vf v2 v5 v6 v7 hin H291 locs292 ls293 Z294 hl295
                      have hl296 : lv_has ls293 9 [(7, .int 0), (6, .int (nI i)), (5, .int 0), (4, .int (-1)), (3, .int 9), (0, .ref mo), (1, .int 3), (2, .int what)] := hl295
                      clear hl295
                      refine lv_iload hx hb dX7_best_70 (lv_at hl296 0 rfl) ?_
                      refine lv_if_le (tgt := 117) hx hb dX7_best_72 (by decide) (fun _ => ?_) (fun h => absurd (by decide) h)
                      refine lv_aload_n hx hb dX7_best_117 rfl (lv_at hl296 5 rfl) ?_
                      refine zz_get X Z294 0 rfl rfl (fun w h => List.mem_cons_of_mem _ (List.mem_append_right _ h)) 0 rfl (zz_m 3 rfl) rfl dX7_best_118 ?_
                      refine lv_iconst (v := 4) hx hb dX7_best_121 (by decide) ?_
                      refine zz_ild X Z294 1 0 rfl rfl (zz_in 4 3047 rfl) dX7_best_122 ?_
                      refine zz_v (v := 0) hin.2.2.2.2.1 ?_
                      refine lv_istore (lv' := [(7, .int 0), (6, .int (nI i)), (5, .int 0), (4, .int (-1)), (3, .int 9), (0, .ref mo), (1, .int 3), (2, .int what)]) hx hb dX7_best_123 hl296 (by decide) rfl (fun ls297 hl298 => ?_)
                      clear hl296
                      refine lv_aload_n hx hb dX7_best_125 rfl (lv_at hl298 5 rfl) ?_
                      refine zz_cv (WC := [(mo, .inr (7, [.ref ms, .ref mi, .ref ma, .int 0, .ref mts, .ref mtz, .ref mtn, .ref mh, .ref mhn, .ref mhw, .ref mhz, .ref mhr, .ref mcl, .ref mtp, .int 0, .int 0, .int 0, .int 0, .int 0, .int 0, .int 0, .int 0, .int 0, .int 0, .int 0, .ref mna, .ref mpi, .ref mca, .ref mwa, .int 0, .ref mrd])), (ms, .inl (kms, 3047, .inl vf)), (mcl, .inl (kcl, 47, .inl c9335))]) (TC := [(kms, .int), (kcl, .int)]) (WR := []) (TR := []) (k := 0) (n := 0) Z294 [0, 1, 2] [] [0, 1] [] rfl rfl (by decide +kernel) (by decide +kernel) (by decide +kernel) rfl rfl (fun Zc => va_runV (As := []) (rest := []) X (c7_laysBack l D mo ms mi ma mts mtz mtn mh mhn mhw mhz mhr mcl mtp mna mpi mca mwa mrd 0 0 0 0 0 0 0 0 0 0 0 0 0 kms vf kcl c9335 H291.size) (cwV 0 hts gX7_best_X7_laysBack rfl rfl rfl ⟨rfl, zh_X7_laysBack⟩ ⟨Nat.le_of_ble_eq_true rfl, Nat.le_of_ble_eq_true rfl⟩) (zz_pV (ci := 7) Zc 0 rfl rfl) rfl rfl hl298.1 rfl (lv_room (Nat.le_of_ble_eq_true rfl)) dX7_best_126 ⟨Nat.le_of_ble_eq_true rfl, Nat.le_of_ble_eq_true rfl⟩) rfl rfl (fun u337 H299 locs300 hw338 Z301 => ?_)
                      clear Z294
                      obtain ⟨f9340, rfl⟩ : ∃ z, z = u337 := ⟨_, rfl⟩
                      try dsimp only at hw338 Z301
                      have Z302 : zz_S D A s [(mo, .inr (7, [.ref ms, .ref mi, .ref ma, .int 0, .ref mts, .ref mtz, .ref mtn, .ref mh, .ref mhn, .ref mhw, .ref mhz, .ref mhr, .ref mcl, .ref mtp, .int 0, .int 0, .int 0, .int 0, .int 0, .int 0, .int 0, .int 0, .int 0, .int 0, .int 0, .ref mna, .ref mpi, .ref mca, .ref mwa, .int 0, .ref mrd])), (ms, .inl (kms, 3047, .inl f9340)), (mcl, .inl (kcl, 47, .inl c9335))] [(kms, .int), (kcl, .int)] H299 locs300 := Z301
                      clear Z301
                      have p341 : f9340 0 = 0 := (hw338 0 (by decide)).trans ((hw333 0 (by decide)).trans af_0)
                      have p342 : f9340 1 = 0 := (hw338 1 (by decide)).trans ((hw333 1 (by decide)).trans af_1)
                      have p343 : f9340 2 = 0 := (hw338 2 (by decide)).trans ((hw333 2 (by decide)).trans af_2)
                      have p344 : f9340 3 = 0 := (hw338 3 (by decide)).trans ((hw333 3 (by decide)).trans af_3)
                      have p345 : f9340 4 = 0 := (hw338 4 (by decide)).trans ((hw333 4 (by decide)).trans af_4)
                      have p346 : f9340 5 = 0 := (hw338 5 (by decide)).trans ((hw333 5 (by decide)).trans af_5)
                      have p347 : f9340 6 = 1 := (hw338 6 (by decide)).trans ((hw333 6 (by decide)).trans af_6)
                      have p348 : f9340 7 = 0 := (hw338 7 (by decide)).trans ((hw333 7 (by decide)).trans af_7)
                      have p349 : f9340 8 = 3 := (hw338 8 (by decide)).trans ((hw333 8 (by decide)).trans af_8)
                      have p350 : f9340 9 = 10 := (hw338 9 (by decide)).trans ((hw333 9 (by decide)).trans af_9)
                      have p351 : f9340 10 = 0 := (hw338 10 (by decide)).trans ((hw333 10 (by decide)).trans af_10)
                      refine lv_iload hx hb dX7_best_129 (lv_at hl298 3 rfl) ?_
                      refine lv_if_lt (tgt := 141) hx hb dX7_best_131 (by decide) (fun _ => ?_) (fun h => absurd (by decide) h)
                      refine lv_iload hx hb dX7_best_141 (lv_at hl298 1 rfl) ?_
                      refine lv_istore (lv' := [(4, .int (nI i)), (7, .int 0), (6, .int (nI i)), (5, .int 0), (3, .int 9), (0, .ref mo), (1, .int 3), (2, .int what)]) hx hb dX7_best_143 hl298 (by decide) rfl (fun ls303 hl304 => ?_)
                      clear hl298
                      refine lv_iload hx hb dX7_best_145 (lv_at hl304 1 rfl) ?_
                      refine lv_istore (lv' := [(5, .int 0), (4, .int (nI i)), (7, .int 0), (6, .int (nI i)), (3, .int 9), (0, .ref mo), (1, .int 3), (2, .int what)]) hx hb dX7_best_147 hl304 (by decide) rfl (fun ls305 hl306 => ?_)
                      clear hl304
                      refine lv_iinc (v := nI (i + 1)) (lv' := [(6, .int (nI (i + 1))), (5, .int 0), (4, .int (nI i)), (7, .int 0), (3, .int 9), (0, .ref mo), (1, .int 3), (2, .int what)]) hx hb dX7_best_149 hl306 (k := 3) rfl (nI_1 i) (by decide) rfl (fun ls307 hl308 => ?_)
                      clear hl306
                      refine lv_goto (tgt := 59) hx hb dX7_best_152 (by decide) ?_
                      exact ih (i + 1) f9340 (nI i) (by omega) ⟨p341, p342, p343, p344, p345, p346, p347, p348, p349, p350, p351, (Or.inr ⟨by omega, by rw [h0]; rfl⟩)⟩ _ _ _ Z302 (lv_sub hl308 [0, 1, 2, 4, 5, 6, 7] rfl)
                  | succ t iht =>
                      intro ht vf v2 v5 v6 v7 hin H309 locs310 ls311 Z312 hl313
                      have hl314 : lv_has ls311 9 [(7, .int (nI (zz_pw (t + 1)))), (6, .int (nI i)), (5, .int 0), (4, .int (-1)), (3, .int 9), (0, .ref mo), (1, .int 3), (2, .int what)] := hl313
                      clear hl313
                      refine lv_iload hx hb dX7_best_70 (lv_at hl314 0 rfl) ?_
                      refine lv_if_le (tgt := 117) hx hb dX7_best_72 (by decide) (fun h => absurd h (nI_nle (zz_pwP t (by omega)).1 (zz_pwP t (by omega)).2)) (fun _ => ?_)
                      refine lv_iload hx hb dX7_best_75 (lv_at hl314 1 rfl) ?_
                      refine lv_iload hx hb dX7_best_77 (lv_at hl314 0 rfl) ?_
                      refine lv_idiv hx hb dX7_best_79 (nI_ne0 (zz_pwP t (by omega)).1 (zz_pwP t (by omega)).2) ?_
                      refine lv_iconst (v := 3) hx hb dX7_best_80 (by decide) ?_
                      refine lv_irem hx hb dX7_best_81 (by decide) ?_
                      refine lv_topi (fun y352 ey353 => ?_)
                      refine lv_istore (lv' := [(8, .int y352), (7, .int (nI (zz_pw (t + 1)))), (6, .int (nI i)), (5, .int 0), (4, .int (-1)), (3, .int 9), (0, .ref mo), (1, .int 3), (2, .int what)]) hx hb dX7_best_82 hl314 (by decide) rfl (fun ls315 hl316 => ?_)
                      clear hl314
                      refine lv_aload_n hx hb dX7_best_84 rfl (lv_at hl316 6 rfl) ?_
                      refine lv_iload hx hb dX7_best_85 (lv_at hl316 0 rfl) ?_
                      refine lv_if_ne (tgt := 94) hx hb dX7_best_87 (by decide) (fun b354 => ?_) (fun b354 => ?_)
                      · refine lv_iload hx hb dX7_best_94 (lv_at hl316 0 rfl) ?_
                        refine lv_iconst (v := 1) hx hb dX7_best_96 (by decide) ?_
                        refine lv_icmp_ne (tgt := 104) hx hb dX7_best_97 (by decide) (fun b355 => ?_) (fun b355 => ?_)
                        · refine lv_iconst (v := 1) hx hb dX7_best_104 (by decide) ?_
                          refine zz_cv (WC := [(mo, .inr (7, [.ref ms, .ref mi, .ref ma, .int 0, .ref mts, .ref mtz, .ref mtn, .ref mh, .ref mhn, .ref mhw, .ref mhz, .ref mhr, .ref mcl, .ref mtp, .int 0, .int 0, .int 0, .int 0, .int 0, .int 0, .int 0, .int 0, .int 0, .int 0, .int 0, .ref mna, .ref mpi, .ref mca, .ref mwa, .int 0, .ref mrd])), (ms, .inl (kms, 3047, .inl vf))]) (TC := [(kms, .int)]) (WR := [(mcl, .inl (kcl, 47, .inl c9335))]) (TR := [(kcl, .int)]) (k := 0) (n := 0) Z312 [0, 1] [2] [0] [1] rfl rfl (by decide +kernel) (by decide +kernel) (by decide +kernel) rfl rfl (fun Zc => va_runV (As := [.int 1]) (rest := []) X (c7_goesOnBy l D mo ms mi ma mts mtz mtn mh mhn mhw mhz mhr mcl mtp mna mpi mca mwa mrd 0 0 0 0 0 0 0 0 0 0 0 0 0 kms vf 0 v2 0 0 v5 v6 v7 3 10 0 1 hin.1 hin.2.1 hin.2.2.1 hin.2.2.2.1 hin.2.2.2.2.1 hin.2.2.2.2.2.1 hin.2.2.2.2.2.2.1 hin.2.2.2.2.2.2.2.1 hin.2.2.2.2.2.2.2.2.1 hin.2.2.2.2.2.2.2.2.2.1 hin.2.2.2.2.2.2.2.2.2.2 H309.size) (cwV 1 hts gX7_best_X7_goesOnBy rfl rfl rfl ⟨rfl, zh_X7_goesOnBy⟩ ⟨Nat.le_of_ble_eq_true rfl, Nat.le_of_ble_eq_true rfl⟩) (zz_pV (ci := 7) Zc 0 rfl rfl) rfl rfl hl316.1 rfl (lv_room (Nat.le_of_ble_eq_true rfl)) dX7_best_105 ⟨Nat.le_of_ble_eq_true rfl, Nat.le_of_ble_eq_true rfl⟩) rfl rfl (fun u356 H317 locs318 hw357 Z319 => ?_)
                          clear Z312
                          obtain ⟨f9359, F9360, T9361, Z9362⟩ := u356
                          try dsimp only at hw357 Z319
                          obtain ⟨⟨p363, p364, p365, p366, p367, p368, p369, p370, p371, p372, p373⟩, hx374⟩ := hw357
                          obtain ⟨rfl, rfl, rfl⟩ := hx374
                          have Z320 : zz_S D A s [(mcl, .inl (kcl, 47, .inl c9335)), (mo, .inr (7, [.ref ms, .ref mi, .ref ma, .int 0, .ref mts, .ref mtz, .ref mtn, .ref mh, .ref mhn, .ref mhw, .ref mhz, .ref mhr, .ref mcl, .ref mtp, .int 0, .int 0, .int 0, .int 0, .int 0, .int 0, .int 0, .int 0, .int 0, .int 0, .int 0, .ref mna, .ref mpi, .ref mca, .ref mwa, .int 0, .ref mrd])), (ms, .inl (kms, 3047, .inl f9359))] [(kcl, .int), (kms, .int)] H317 locs318 := Z319
                          clear Z319
                          refine lv_iload hx hb dX7_best_108 (lv_at hl316 1 rfl) ?_
                          refine lv_iconst (v := 3) hx hb dX7_best_110 (by decide) ?_
                          refine lv_idiv hx hb dX7_best_111 (by decide) ?_
                          refine zz_v (v := nI (zz_pw t)) (zz_pw3 t (by omega)) ?_
                          refine lv_istore (lv' := [(7, .int (nI (zz_pw t))), (8, .int y352), (6, .int (nI i)), (5, .int 0), (4, .int (-1)), (3, .int 9), (0, .ref mo), (1, .int 3), (2, .int what)]) hx hb dX7_best_112 hl316 (by decide) rfl (fun ls321 hl322 => ?_)
                          clear hl316
                          refine lv_goto (tgt := 70) hx hb dX7_best_114 (by decide) ?_
                          have Z323 := Z320.sub (WS' := [(mo, .inr (7, [.ref ms, .ref mi, .ref ma, .int 0, .ref mts, .ref mtz, .ref mtn, .ref mh, .ref mhn, .ref mhw, .ref mhz, .ref mhr, .ref mcl, .ref mtp, .int 0, .int 0, .int 0, .int 0, .int 0, .int 0, .int 0, .int 0, .int 0, .int 0, .int 0, .ref mna, .ref mpi, .ref mca, .ref mwa, .int 0, .ref mrd])), (ms, .inl (kms, 3047, .inl f9359)), (mcl, .inl (kcl, 47, .inl c9335))]) (TYS' := [(kms, .int), (kcl, .int)]) [1, 2, 0] [1, 0] (by decide +kernel) rfl rfl
                          clear Z320
                          exact iht (by omega) f9359 (v2 + 1) (zz_bT v5 v6 10) (zz_bZ v6 10) (zz_mF v7 1 v6 3 10) ⟨p363, p364, p365, p366, p367, p368, p369, p370, p371, p372, p373⟩ _ _ _ Z323 (lv_sub hl322 [0, 2, 3, 4, 5, 6, 7, 8] rfl)
                        · refine lv_iconst (v := (-1)) hx hb dX7_best_100 (by decide) ?_
                          refine lv_goto (tgt := 105) hx hb dX7_best_101 (by decide) ?_
                          refine zz_cv (WC := [(mo, .inr (7, [.ref ms, .ref mi, .ref ma, .int 0, .ref mts, .ref mtz, .ref mtn, .ref mh, .ref mhn, .ref mhw, .ref mhz, .ref mhr, .ref mcl, .ref mtp, .int 0, .int 0, .int 0, .int 0, .int 0, .int 0, .int 0, .int 0, .int 0, .int 0, .int 0, .ref mna, .ref mpi, .ref mca, .ref mwa, .int 0, .ref mrd])), (ms, .inl (kms, 3047, .inl vf))]) (TC := [(kms, .int)]) (WR := [(mcl, .inl (kcl, 47, .inl c9335))]) (TR := [(kcl, .int)]) (k := 0) (n := 0) Z312 [0, 1] [2] [0] [1] rfl rfl (by decide +kernel) (by decide +kernel) (by decide +kernel) rfl rfl (fun Zc => va_runV (As := [.int (-1)]) (rest := []) X (c7_goesOnBy l D mo ms mi ma mts mtz mtn mh mhn mhw mhz mhr mcl mtp mna mpi mca mwa mrd 0 0 0 0 0 0 0 0 0 0 0 0 0 kms vf 0 v2 0 0 v5 v6 v7 3 10 0 (-1) hin.1 hin.2.1 hin.2.2.1 hin.2.2.2.1 hin.2.2.2.2.1 hin.2.2.2.2.2.1 hin.2.2.2.2.2.2.1 hin.2.2.2.2.2.2.2.1 hin.2.2.2.2.2.2.2.2.1 hin.2.2.2.2.2.2.2.2.2.1 hin.2.2.2.2.2.2.2.2.2.2 H309.size) (cwV 1 hts gX7_best_X7_goesOnBy rfl rfl rfl ⟨rfl, zh_X7_goesOnBy⟩ ⟨Nat.le_of_ble_eq_true rfl, Nat.le_of_ble_eq_true rfl⟩) (zz_pV (ci := 7) Zc 0 rfl rfl) rfl rfl hl316.1 rfl (lv_room (Nat.le_of_ble_eq_true rfl)) dX7_best_105 ⟨Nat.le_of_ble_eq_true rfl, Nat.le_of_ble_eq_true rfl⟩) rfl rfl (fun u375 H324 locs325 hw376 Z326 => ?_)
                          clear Z312
                          obtain ⟨f9378, F9379, T9380, Z9381⟩ := u375
                          try dsimp only at hw376 Z326
                          obtain ⟨⟨p382, p383, p384, p385, p386, p387, p388, p389, p390, p391, p392⟩, hx393⟩ := hw376
                          obtain ⟨rfl, rfl, rfl⟩ := hx393
                          have Z327 : zz_S D A s [(mcl, .inl (kcl, 47, .inl c9335)), (mo, .inr (7, [.ref ms, .ref mi, .ref ma, .int 0, .ref mts, .ref mtz, .ref mtn, .ref mh, .ref mhn, .ref mhw, .ref mhz, .ref mhr, .ref mcl, .ref mtp, .int 0, .int 0, .int 0, .int 0, .int 0, .int 0, .int 0, .int 0, .int 0, .int 0, .int 0, .ref mna, .ref mpi, .ref mca, .ref mwa, .int 0, .ref mrd])), (ms, .inl (kms, 3047, .inl f9378))] [(kcl, .int), (kms, .int)] H324 locs325 := Z326
                          clear Z326
                          refine lv_iload hx hb dX7_best_108 (lv_at hl316 1 rfl) ?_
                          refine lv_iconst (v := 3) hx hb dX7_best_110 (by decide) ?_
                          refine lv_idiv hx hb dX7_best_111 (by decide) ?_
                          refine zz_v (v := nI (zz_pw t)) (zz_pw3 t (by omega)) ?_
                          refine lv_istore (lv' := [(7, .int (nI (zz_pw t))), (8, .int y352), (6, .int (nI i)), (5, .int 0), (4, .int (-1)), (3, .int 9), (0, .ref mo), (1, .int 3), (2, .int what)]) hx hb dX7_best_112 hl316 (by decide) rfl (fun ls328 hl329 => ?_)
                          clear hl316
                          refine lv_goto (tgt := 70) hx hb dX7_best_114 (by decide) ?_
                          have Z330 := Z327.sub (WS' := [(mo, .inr (7, [.ref ms, .ref mi, .ref ma, .int 0, .ref mts, .ref mtz, .ref mtn, .ref mh, .ref mhn, .ref mhw, .ref mhz, .ref mhr, .ref mcl, .ref mtp, .int 0, .int 0, .int 0, .int 0, .int 0, .int 0, .int 0, .int 0, .int 0, .int 0, .int 0, .ref mna, .ref mpi, .ref mca, .ref mwa, .int 0, .ref mrd])), (ms, .inl (kms, 3047, .inl f9378)), (mcl, .inl (kcl, 47, .inl c9335))]) (TYS' := [(kms, .int), (kcl, .int)]) [1, 2, 0] [1, 0] (by decide +kernel) rfl rfl
                          clear Z327
                          exact iht (by omega) f9378 (v2 + 1) (zz_bT v5 v6 10) (zz_bZ v6 10) (zz_mF v7 (-1) v6 3 10) ⟨p382, p383, p384, p385, p386, p387, p388, p389, p390, p391, p392⟩ _ _ _ Z330 (lv_sub hl329 [0, 2, 3, 4, 5, 6, 7, 8] rfl)
                      · refine lv_iconst (v := 0) hx hb dX7_best_90 (by decide) ?_
                        refine lv_goto (tgt := 105) hx hb dX7_best_91 (by decide) ?_
                        refine zz_cv (WC := [(mo, .inr (7, [.ref ms, .ref mi, .ref ma, .int 0, .ref mts, .ref mtz, .ref mtn, .ref mh, .ref mhn, .ref mhw, .ref mhz, .ref mhr, .ref mcl, .ref mtp, .int 0, .int 0, .int 0, .int 0, .int 0, .int 0, .int 0, .int 0, .int 0, .int 0, .int 0, .ref mna, .ref mpi, .ref mca, .ref mwa, .int 0, .ref mrd])), (ms, .inl (kms, 3047, .inl vf))]) (TC := [(kms, .int)]) (WR := [(mcl, .inl (kcl, 47, .inl c9335))]) (TR := [(kcl, .int)]) (k := 0) (n := 0) Z312 [0, 1] [2] [0] [1] rfl rfl (by decide +kernel) (by decide +kernel) (by decide +kernel) rfl rfl (fun Zc => va_runV (As := [.int 0]) (rest := []) X (c7_goesOnBy l D mo ms mi ma mts mtz mtn mh mhn mhw mhz mhr mcl mtp mna mpi mca mwa mrd 0 0 0 0 0 0 0 0 0 0 0 0 0 kms vf 0 v2 0 0 v5 v6 v7 3 10 0 0 hin.1 hin.2.1 hin.2.2.1 hin.2.2.2.1 hin.2.2.2.2.1 hin.2.2.2.2.2.1 hin.2.2.2.2.2.2.1 hin.2.2.2.2.2.2.2.1 hin.2.2.2.2.2.2.2.2.1 hin.2.2.2.2.2.2.2.2.2.1 hin.2.2.2.2.2.2.2.2.2.2 H309.size) (cwV 1 hts gX7_best_X7_goesOnBy rfl rfl rfl ⟨rfl, zh_X7_goesOnBy⟩ ⟨Nat.le_of_ble_eq_true rfl, Nat.le_of_ble_eq_true rfl⟩) (zz_pV (ci := 7) Zc 0 rfl rfl) rfl rfl hl316.1 rfl (lv_room (Nat.le_of_ble_eq_true rfl)) dX7_best_105 ⟨Nat.le_of_ble_eq_true rfl, Nat.le_of_ble_eq_true rfl⟩) rfl rfl (fun u394 H331 locs332 hw395 Z333 => ?_)
                        clear Z312
                        obtain ⟨f9397, F9398, T9399, Z9400⟩ := u394
                        try dsimp only at hw395 Z333
                        obtain ⟨⟨p401, p402, p403, p404, p405, p406, p407, p408, p409, p410, p411⟩, hx412⟩ := hw395
                        obtain ⟨rfl, rfl, rfl⟩ := hx412
                        have Z334 : zz_S D A s [(mcl, .inl (kcl, 47, .inl c9335)), (mo, .inr (7, [.ref ms, .ref mi, .ref ma, .int 0, .ref mts, .ref mtz, .ref mtn, .ref mh, .ref mhn, .ref mhw, .ref mhz, .ref mhr, .ref mcl, .ref mtp, .int 0, .int 0, .int 0, .int 0, .int 0, .int 0, .int 0, .int 0, .int 0, .int 0, .int 0, .ref mna, .ref mpi, .ref mca, .ref mwa, .int 0, .ref mrd])), (ms, .inl (kms, 3047, .inl f9397))] [(kcl, .int), (kms, .int)] H331 locs332 := Z333
                        clear Z333
                        refine lv_iload hx hb dX7_best_108 (lv_at hl316 1 rfl) ?_
                        refine lv_iconst (v := 3) hx hb dX7_best_110 (by decide) ?_
                        refine lv_idiv hx hb dX7_best_111 (by decide) ?_
                        refine zz_v (v := nI (zz_pw t)) (zz_pw3 t (by omega)) ?_
                        refine lv_istore (lv' := [(7, .int (nI (zz_pw t))), (8, .int y352), (6, .int (nI i)), (5, .int 0), (4, .int (-1)), (3, .int 9), (0, .ref mo), (1, .int 3), (2, .int what)]) hx hb dX7_best_112 hl316 (by decide) rfl (fun ls335 hl336 => ?_)
                        clear hl316
                        refine lv_goto (tgt := 70) hx hb dX7_best_114 (by decide) ?_
                        have Z337 := Z334.sub (WS' := [(mo, .inr (7, [.ref ms, .ref mi, .ref ma, .int 0, .ref mts, .ref mtz, .ref mtn, .ref mh, .ref mhn, .ref mhw, .ref mhz, .ref mhr, .ref mcl, .ref mtp, .int 0, .int 0, .int 0, .int 0, .int 0, .int 0, .int 0, .int 0, .int 0, .int 0, .int 0, .ref mna, .ref mpi, .ref mca, .ref mwa, .int 0, .ref mrd])), (ms, .inl (kms, 3047, .inl f9397)), (mcl, .inl (kcl, 47, .inl c9335))]) (TYS' := [(kms, .int), (kcl, .int)]) [1, 2, 0] [1, 0] (by decide +kernel) rfl rfl
                        clear Z334
                        exact iht (by omega) f9397 (v2 + 1) (zz_bT v5 v6 10) (zz_bZ v6 10) (zz_mF v7 0 v6 3 10) ⟨p401, p402, p403, p404, p405, p406, p407, p408, p409, p410, p411⟩ _ _ _ Z337 (lv_sub hl336 [0, 2, 3, 4, 5, 6, 7, 8] rfl)
                exact inner 3 (by decide) vf 0 0 1 0 ⟨hinv.1, hinv.2.1, hinv.2.2.1, hinv.2.2.2.1, hinv.2.2.2.2.1, hinv.2.2.2.2.2.1, hinv.2.2.2.2.2.2.1, hinv.2.2.2.2.2.2.2.1, hinv.2.2.2.2.2.2.2.2.1, hinv.2.2.2.2.2.2.2.2.2.1, hinv.2.2.2.2.2.2.2.2.2.2.1⟩ _ _ _ Z287 hl290
              · subst hv
                refine lv_iload hx hb dX7_best_59 (lv_at hl288 0 rfl) ?_
                refine lv_iconst (v := 3) hx hb dX7_best_61 (by decide) ?_
                refine lv_iload_n hx hb dX7_best_62 rfl (lv_at hl288 3 rfl) ?_
                refine lv_imul hx hb dX7_best_63 ?_
                refine zz_v (v := 27) (by decide) ?_
                refine lv_icmp_ge (tgt := 155) hx hb dX7_best_64 (by decide) (fun h => absurd h (nI_ge (a := i) (b := 27) (by omega) (by omega))) (fun _ => ?_)
                refine lv_iload_n hx hb dX7_best_67 rfl (lv_at hl288 3 rfl) ?_
                refine lv_istore (lv' := [(7, .int 9), (6, .int (nI i)), (5, .int 0), (4, .int 0), (3, .int 9), (0, .ref mo), (1, .int 3), (2, .int what)]) hx hb dX7_best_68 hl288 (by decide) rfl (fun ls338 hl339 => ?_)
                clear hl288
                have inner : ∀ (t : Nat), t ≤ 5 → ∀ (vf : Nat → Int32) (v2 v5 v6 v7 : Int32), vf 0 = 0 ∧ vf 1 = 0 ∧ vf 2 = v2 ∧ vf 3 = 0 ∧ vf 4 = 0 ∧ vf 5 = v5 ∧ vf 6 = v6 ∧ vf 7 = v7 ∧ vf 8 = 3 ∧ vf 9 = 10 ∧ vf 10 = 0 → ∀ (Hq : Heap) (Lq : List Loc) (lq : Array Slot), zz_S D A s [(mo, .inr (7, [.ref ms, .ref mi, .ref ma, .int 0, .ref mts, .ref mtz, .ref mtn, .ref mh, .ref mhn, .ref mhw, .ref mhz, .ref mhr, .ref mcl, .ref mtp, .int 0, .int 0, .int 0, .int 0, .int 0, .int 0, .int 0, .int 0, .int 0, .int 0, .int 0, .ref mna, .ref mpi, .ref mca, .ref mwa, .int 0, .ref mrd])), (ms, .inl (kms, 3047, .inl vf)), (mcl, .inl (kcl, 47, .inl c9335))] [(kms, .int), (kcl, .int)] Hq Lq → lv_has lq 9 [(7, .int (nI (zz_pw t))), (6, .int (nI i)), (5, .int 0), (4, .int 0), (3, .int 9), (0, .ref mo), (1, .int 3), (2, .int what)] → W p l e (headSpec wsX7_best { frames := 3, cells := 0, slots := 0, locals := 64 }).room s m (List.toArray [.ref mo, .int 3, .int what]) below meth c Hq Lq 0 0 (MQ below (va_Qi (fun (r : Int32) (u : Unit) => r = sp_best 3 what) (fun u t => zz_B D A ((fun (u : Unit) => []) u) ((fun (u : Unit) => []) u) t) A) (List.toArray [.ref mo, .int 3, .int what]) s 0 0 A) (F0 m 70 lq []) := by
                  intro t
                  induction t with
                  | zero =>
                      intro ht vf v2 v5 v6 v7 hin H340 locs341 ls342 Z343 hl344
                      have hl345 : lv_has ls342 9 [(7, .int 0), (6, .int (nI i)), (5, .int 0), (4, .int 0), (3, .int 9), (0, .ref mo), (1, .int 3), (2, .int what)] := hl344
                      clear hl344
                      refine lv_iload hx hb dX7_best_70 (lv_at hl345 0 rfl) ?_
                      refine lv_if_le (tgt := 117) hx hb dX7_best_72 (by decide) (fun _ => ?_) (fun h => absurd (by decide) h)
                      refine lv_aload_n hx hb dX7_best_117 rfl (lv_at hl345 5 rfl) ?_
                      refine zz_get X Z343 0 rfl rfl (fun w h => List.mem_cons_of_mem _ (List.mem_append_right _ h)) 0 rfl (zz_m 3 rfl) rfl dX7_best_118 ?_
                      refine lv_iconst (v := 4) hx hb dX7_best_121 (by decide) ?_
                      refine zz_ild X Z343 1 0 rfl rfl (zz_in 4 3047 rfl) dX7_best_122 ?_
                      refine zz_v (v := 0) hin.2.2.2.2.1 ?_
                      refine lv_istore (lv' := [(7, .int 0), (6, .int (nI i)), (5, .int 0), (4, .int 0), (3, .int 9), (0, .ref mo), (1, .int 3), (2, .int what)]) hx hb dX7_best_123 hl345 (by decide) rfl (fun ls346 hl347 => ?_)
                      clear hl345
                      refine lv_aload_n hx hb dX7_best_125 rfl (lv_at hl347 5 rfl) ?_
                      refine zz_cv (WC := [(mo, .inr (7, [.ref ms, .ref mi, .ref ma, .int 0, .ref mts, .ref mtz, .ref mtn, .ref mh, .ref mhn, .ref mhw, .ref mhz, .ref mhr, .ref mcl, .ref mtp, .int 0, .int 0, .int 0, .int 0, .int 0, .int 0, .int 0, .int 0, .int 0, .int 0, .int 0, .ref mna, .ref mpi, .ref mca, .ref mwa, .int 0, .ref mrd])), (ms, .inl (kms, 3047, .inl vf)), (mcl, .inl (kcl, 47, .inl c9335))]) (TC := [(kms, .int), (kcl, .int)]) (WR := []) (TR := []) (k := 0) (n := 0) Z343 [0, 1, 2] [] [0, 1] [] rfl rfl (by decide +kernel) (by decide +kernel) (by decide +kernel) rfl rfl (fun Zc => va_runV (As := []) (rest := []) X (c7_laysBack l D mo ms mi ma mts mtz mtn mh mhn mhw mhz mhr mcl mtp mna mpi mca mwa mrd 0 0 0 0 0 0 0 0 0 0 0 0 0 kms vf kcl c9335 H340.size) (cwV 0 hts gX7_best_X7_laysBack rfl rfl rfl ⟨rfl, zh_X7_laysBack⟩ ⟨Nat.le_of_ble_eq_true rfl, Nat.le_of_ble_eq_true rfl⟩) (zz_pV (ci := 7) Zc 0 rfl rfl) rfl rfl hl347.1 rfl (lv_room (Nat.le_of_ble_eq_true rfl)) dX7_best_126 ⟨Nat.le_of_ble_eq_true rfl, Nat.le_of_ble_eq_true rfl⟩) rfl rfl (fun u413 H348 locs349 hw414 Z350 => ?_)
                      clear Z343
                      obtain ⟨f9416, rfl⟩ : ∃ z, z = u413 := ⟨_, rfl⟩
                      try dsimp only at hw414 Z350
                      have Z351 : zz_S D A s [(mo, .inr (7, [.ref ms, .ref mi, .ref ma, .int 0, .ref mts, .ref mtz, .ref mtn, .ref mh, .ref mhn, .ref mhw, .ref mhz, .ref mhr, .ref mcl, .ref mtp, .int 0, .int 0, .int 0, .int 0, .int 0, .int 0, .int 0, .int 0, .int 0, .int 0, .int 0, .ref mna, .ref mpi, .ref mca, .ref mwa, .int 0, .ref mrd])), (ms, .inl (kms, 3047, .inl f9416)), (mcl, .inl (kcl, 47, .inl c9335))] [(kms, .int), (kcl, .int)] H348 locs349 := Z350
                      clear Z350
                      have p417 : f9416 0 = 0 := (hw414 0 (by decide)).trans ((hw333 0 (by decide)).trans af_0)
                      have p418 : f9416 1 = 0 := (hw414 1 (by decide)).trans ((hw333 1 (by decide)).trans af_1)
                      have p419 : f9416 2 = 0 := (hw414 2 (by decide)).trans ((hw333 2 (by decide)).trans af_2)
                      have p420 : f9416 3 = 0 := (hw414 3 (by decide)).trans ((hw333 3 (by decide)).trans af_3)
                      have p421 : f9416 4 = 0 := (hw414 4 (by decide)).trans ((hw333 4 (by decide)).trans af_4)
                      have p422 : f9416 5 = 0 := (hw414 5 (by decide)).trans ((hw333 5 (by decide)).trans af_5)
                      have p423 : f9416 6 = 1 := (hw414 6 (by decide)).trans ((hw333 6 (by decide)).trans af_6)
                      have p424 : f9416 7 = 0 := (hw414 7 (by decide)).trans ((hw333 7 (by decide)).trans af_7)
                      have p425 : f9416 8 = 3 := (hw414 8 (by decide)).trans ((hw333 8 (by decide)).trans af_8)
                      have p426 : f9416 9 = 10 := (hw414 9 (by decide)).trans ((hw333 9 (by decide)).trans af_9)
                      have p427 : f9416 10 = 0 := (hw414 10 (by decide)).trans ((hw333 10 (by decide)).trans af_10)
                      refine lv_iload hx hb dX7_best_129 (lv_at hl347 3 rfl) ?_
                      refine lv_if_lt (tgt := 141) hx hb dX7_best_131 (by decide) (fun h => absurd h (by decide)) (fun _ => ?_)
                      refine lv_iload hx hb dX7_best_134 (lv_at hl347 0 rfl) ?_
                      refine lv_iload hx hb dX7_best_136 (lv_at hl347 2 rfl) ?_
                      refine lv_icmp_ge (tgt := 149) hx hb dX7_best_138 (by decide) (fun _ => ?_) (fun h => absurd (by decide) h)
                      refine lv_iinc (v := nI (i + 1)) (lv' := [(6, .int (nI (i + 1))), (7, .int 0), (5, .int 0), (4, .int 0), (3, .int 9), (0, .ref mo), (1, .int 3), (2, .int what)]) hx hb dX7_best_149 hl347 (k := 1) rfl (nI_1 i) (by decide) rfl (fun ls352 hl353 => ?_)
                      clear hl347
                      refine lv_goto (tgt := 59) hx hb dX7_best_152 (by decide) ?_
                      exact ih (i + 1) f9416 0 (by omega) ⟨p417, p418, p419, p420, p421, p422, p423, p424, p425, p426, p427, (Or.inr ⟨by omega, rfl⟩)⟩ _ _ _ Z351 (lv_sub hl353 [0, 2, 3, 4, 5, 6, 7] rfl)
                  | succ t iht =>
                      intro ht vf v2 v5 v6 v7 hin H354 locs355 ls356 Z357 hl358
                      have hl359 : lv_has ls356 9 [(7, .int (nI (zz_pw (t + 1)))), (6, .int (nI i)), (5, .int 0), (4, .int 0), (3, .int 9), (0, .ref mo), (1, .int 3), (2, .int what)] := hl358
                      clear hl358
                      refine lv_iload hx hb dX7_best_70 (lv_at hl359 0 rfl) ?_
                      refine lv_if_le (tgt := 117) hx hb dX7_best_72 (by decide) (fun h => absurd h (nI_nle (zz_pwP t (by omega)).1 (zz_pwP t (by omega)).2)) (fun _ => ?_)
                      refine lv_iload hx hb dX7_best_75 (lv_at hl359 1 rfl) ?_
                      refine lv_iload hx hb dX7_best_77 (lv_at hl359 0 rfl) ?_
                      refine lv_idiv hx hb dX7_best_79 (nI_ne0 (zz_pwP t (by omega)).1 (zz_pwP t (by omega)).2) ?_
                      refine lv_iconst (v := 3) hx hb dX7_best_80 (by decide) ?_
                      refine lv_irem hx hb dX7_best_81 (by decide) ?_
                      refine lv_topi (fun y428 ey429 => ?_)
                      refine lv_istore (lv' := [(8, .int y428), (7, .int (nI (zz_pw (t + 1)))), (6, .int (nI i)), (5, .int 0), (4, .int 0), (3, .int 9), (0, .ref mo), (1, .int 3), (2, .int what)]) hx hb dX7_best_82 hl359 (by decide) rfl (fun ls360 hl361 => ?_)
                      clear hl359
                      refine lv_aload_n hx hb dX7_best_84 rfl (lv_at hl361 6 rfl) ?_
                      refine lv_iload hx hb dX7_best_85 (lv_at hl361 0 rfl) ?_
                      refine lv_if_ne (tgt := 94) hx hb dX7_best_87 (by decide) (fun b430 => ?_) (fun b430 => ?_)
                      · refine lv_iload hx hb dX7_best_94 (lv_at hl361 0 rfl) ?_
                        refine lv_iconst (v := 1) hx hb dX7_best_96 (by decide) ?_
                        refine lv_icmp_ne (tgt := 104) hx hb dX7_best_97 (by decide) (fun b431 => ?_) (fun b431 => ?_)
                        · refine lv_iconst (v := 1) hx hb dX7_best_104 (by decide) ?_
                          refine zz_cv (WC := [(mo, .inr (7, [.ref ms, .ref mi, .ref ma, .int 0, .ref mts, .ref mtz, .ref mtn, .ref mh, .ref mhn, .ref mhw, .ref mhz, .ref mhr, .ref mcl, .ref mtp, .int 0, .int 0, .int 0, .int 0, .int 0, .int 0, .int 0, .int 0, .int 0, .int 0, .int 0, .ref mna, .ref mpi, .ref mca, .ref mwa, .int 0, .ref mrd])), (ms, .inl (kms, 3047, .inl vf))]) (TC := [(kms, .int)]) (WR := [(mcl, .inl (kcl, 47, .inl c9335))]) (TR := [(kcl, .int)]) (k := 0) (n := 0) Z357 [0, 1] [2] [0] [1] rfl rfl (by decide +kernel) (by decide +kernel) (by decide +kernel) rfl rfl (fun Zc => va_runV (As := [.int 1]) (rest := []) X (c7_goesOnBy l D mo ms mi ma mts mtz mtn mh mhn mhw mhz mhr mcl mtp mna mpi mca mwa mrd 0 0 0 0 0 0 0 0 0 0 0 0 0 kms vf 0 v2 0 0 v5 v6 v7 3 10 0 1 hin.1 hin.2.1 hin.2.2.1 hin.2.2.2.1 hin.2.2.2.2.1 hin.2.2.2.2.2.1 hin.2.2.2.2.2.2.1 hin.2.2.2.2.2.2.2.1 hin.2.2.2.2.2.2.2.2.1 hin.2.2.2.2.2.2.2.2.2.1 hin.2.2.2.2.2.2.2.2.2.2 H354.size) (cwV 1 hts gX7_best_X7_goesOnBy rfl rfl rfl ⟨rfl, zh_X7_goesOnBy⟩ ⟨Nat.le_of_ble_eq_true rfl, Nat.le_of_ble_eq_true rfl⟩) (zz_pV (ci := 7) Zc 0 rfl rfl) rfl rfl hl361.1 rfl (lv_room (Nat.le_of_ble_eq_true rfl)) dX7_best_105 ⟨Nat.le_of_ble_eq_true rfl, Nat.le_of_ble_eq_true rfl⟩) rfl rfl (fun u432 H362 locs363 hw433 Z364 => ?_)
                          clear Z357
                          obtain ⟨f9435, F9436, T9437, Z9438⟩ := u432
                          try dsimp only at hw433 Z364
                          obtain ⟨⟨p439, p440, p441, p442, p443, p444, p445, p446, p447, p448, p449⟩, hx450⟩ := hw433
                          obtain ⟨rfl, rfl, rfl⟩ := hx450
                          have Z365 : zz_S D A s [(mcl, .inl (kcl, 47, .inl c9335)), (mo, .inr (7, [.ref ms, .ref mi, .ref ma, .int 0, .ref mts, .ref mtz, .ref mtn, .ref mh, .ref mhn, .ref mhw, .ref mhz, .ref mhr, .ref mcl, .ref mtp, .int 0, .int 0, .int 0, .int 0, .int 0, .int 0, .int 0, .int 0, .int 0, .int 0, .int 0, .ref mna, .ref mpi, .ref mca, .ref mwa, .int 0, .ref mrd])), (ms, .inl (kms, 3047, .inl f9435))] [(kcl, .int), (kms, .int)] H362 locs363 := Z364
                          clear Z364
                          refine lv_iload hx hb dX7_best_108 (lv_at hl361 1 rfl) ?_
                          refine lv_iconst (v := 3) hx hb dX7_best_110 (by decide) ?_
                          refine lv_idiv hx hb dX7_best_111 (by decide) ?_
                          refine zz_v (v := nI (zz_pw t)) (zz_pw3 t (by omega)) ?_
                          refine lv_istore (lv' := [(7, .int (nI (zz_pw t))), (8, .int y428), (6, .int (nI i)), (5, .int 0), (4, .int 0), (3, .int 9), (0, .ref mo), (1, .int 3), (2, .int what)]) hx hb dX7_best_112 hl361 (by decide) rfl (fun ls366 hl367 => ?_)
                          clear hl361
                          refine lv_goto (tgt := 70) hx hb dX7_best_114 (by decide) ?_
                          have Z368 := Z365.sub (WS' := [(mo, .inr (7, [.ref ms, .ref mi, .ref ma, .int 0, .ref mts, .ref mtz, .ref mtn, .ref mh, .ref mhn, .ref mhw, .ref mhz, .ref mhr, .ref mcl, .ref mtp, .int 0, .int 0, .int 0, .int 0, .int 0, .int 0, .int 0, .int 0, .int 0, .int 0, .int 0, .ref mna, .ref mpi, .ref mca, .ref mwa, .int 0, .ref mrd])), (ms, .inl (kms, 3047, .inl f9435)), (mcl, .inl (kcl, 47, .inl c9335))]) (TYS' := [(kms, .int), (kcl, .int)]) [1, 2, 0] [1, 0] (by decide +kernel) rfl rfl
                          clear Z365
                          exact iht (by omega) f9435 (v2 + 1) (zz_bT v5 v6 10) (zz_bZ v6 10) (zz_mF v7 1 v6 3 10) ⟨p439, p440, p441, p442, p443, p444, p445, p446, p447, p448, p449⟩ _ _ _ Z368 (lv_sub hl367 [0, 2, 3, 4, 5, 6, 7, 8] rfl)
                        · refine lv_iconst (v := (-1)) hx hb dX7_best_100 (by decide) ?_
                          refine lv_goto (tgt := 105) hx hb dX7_best_101 (by decide) ?_
                          refine zz_cv (WC := [(mo, .inr (7, [.ref ms, .ref mi, .ref ma, .int 0, .ref mts, .ref mtz, .ref mtn, .ref mh, .ref mhn, .ref mhw, .ref mhz, .ref mhr, .ref mcl, .ref mtp, .int 0, .int 0, .int 0, .int 0, .int 0, .int 0, .int 0, .int 0, .int 0, .int 0, .int 0, .ref mna, .ref mpi, .ref mca, .ref mwa, .int 0, .ref mrd])), (ms, .inl (kms, 3047, .inl vf))]) (TC := [(kms, .int)]) (WR := [(mcl, .inl (kcl, 47, .inl c9335))]) (TR := [(kcl, .int)]) (k := 0) (n := 0) Z357 [0, 1] [2] [0] [1] rfl rfl (by decide +kernel) (by decide +kernel) (by decide +kernel) rfl rfl (fun Zc => va_runV (As := [.int (-1)]) (rest := []) X (c7_goesOnBy l D mo ms mi ma mts mtz mtn mh mhn mhw mhz mhr mcl mtp mna mpi mca mwa mrd 0 0 0 0 0 0 0 0 0 0 0 0 0 kms vf 0 v2 0 0 v5 v6 v7 3 10 0 (-1) hin.1 hin.2.1 hin.2.2.1 hin.2.2.2.1 hin.2.2.2.2.1 hin.2.2.2.2.2.1 hin.2.2.2.2.2.2.1 hin.2.2.2.2.2.2.2.1 hin.2.2.2.2.2.2.2.2.1 hin.2.2.2.2.2.2.2.2.2.1 hin.2.2.2.2.2.2.2.2.2.2 H354.size) (cwV 1 hts gX7_best_X7_goesOnBy rfl rfl rfl ⟨rfl, zh_X7_goesOnBy⟩ ⟨Nat.le_of_ble_eq_true rfl, Nat.le_of_ble_eq_true rfl⟩) (zz_pV (ci := 7) Zc 0 rfl rfl) rfl rfl hl361.1 rfl (lv_room (Nat.le_of_ble_eq_true rfl)) dX7_best_105 ⟨Nat.le_of_ble_eq_true rfl, Nat.le_of_ble_eq_true rfl⟩) rfl rfl (fun u451 H369 locs370 hw452 Z371 => ?_)
                          clear Z357
                          obtain ⟨f9454, F9455, T9456, Z9457⟩ := u451
                          try dsimp only at hw452 Z371
                          obtain ⟨⟨p458, p459, p460, p461, p462, p463, p464, p465, p466, p467, p468⟩, hx469⟩ := hw452
                          obtain ⟨rfl, rfl, rfl⟩ := hx469
                          have Z372 : zz_S D A s [(mcl, .inl (kcl, 47, .inl c9335)), (mo, .inr (7, [.ref ms, .ref mi, .ref ma, .int 0, .ref mts, .ref mtz, .ref mtn, .ref mh, .ref mhn, .ref mhw, .ref mhz, .ref mhr, .ref mcl, .ref mtp, .int 0, .int 0, .int 0, .int 0, .int 0, .int 0, .int 0, .int 0, .int 0, .int 0, .int 0, .ref mna, .ref mpi, .ref mca, .ref mwa, .int 0, .ref mrd])), (ms, .inl (kms, 3047, .inl f9454))] [(kcl, .int), (kms, .int)] H369 locs370 := Z371
                          clear Z371
                          refine lv_iload hx hb dX7_best_108 (lv_at hl361 1 rfl) ?_
                          refine lv_iconst (v := 3) hx hb dX7_best_110 (by decide) ?_
                          refine lv_idiv hx hb dX7_best_111 (by decide) ?_
                          refine zz_v (v := nI (zz_pw t)) (zz_pw3 t (by omega)) ?_
                          refine lv_istore (lv' := [(7, .int (nI (zz_pw t))), (8, .int y428), (6, .int (nI i)), (5, .int 0), (4, .int 0), (3, .int 9), (0, .ref mo), (1, .int 3), (2, .int what)]) hx hb dX7_best_112 hl361 (by decide) rfl (fun ls373 hl374 => ?_)
                          clear hl361
                          refine lv_goto (tgt := 70) hx hb dX7_best_114 (by decide) ?_
                          have Z375 := Z372.sub (WS' := [(mo, .inr (7, [.ref ms, .ref mi, .ref ma, .int 0, .ref mts, .ref mtz, .ref mtn, .ref mh, .ref mhn, .ref mhw, .ref mhz, .ref mhr, .ref mcl, .ref mtp, .int 0, .int 0, .int 0, .int 0, .int 0, .int 0, .int 0, .int 0, .int 0, .int 0, .int 0, .ref mna, .ref mpi, .ref mca, .ref mwa, .int 0, .ref mrd])), (ms, .inl (kms, 3047, .inl f9454)), (mcl, .inl (kcl, 47, .inl c9335))]) (TYS' := [(kms, .int), (kcl, .int)]) [1, 2, 0] [1, 0] (by decide +kernel) rfl rfl
                          clear Z372
                          exact iht (by omega) f9454 (v2 + 1) (zz_bT v5 v6 10) (zz_bZ v6 10) (zz_mF v7 (-1) v6 3 10) ⟨p458, p459, p460, p461, p462, p463, p464, p465, p466, p467, p468⟩ _ _ _ Z375 (lv_sub hl374 [0, 2, 3, 4, 5, 6, 7, 8] rfl)
                      · refine lv_iconst (v := 0) hx hb dX7_best_90 (by decide) ?_
                        refine lv_goto (tgt := 105) hx hb dX7_best_91 (by decide) ?_
                        refine zz_cv (WC := [(mo, .inr (7, [.ref ms, .ref mi, .ref ma, .int 0, .ref mts, .ref mtz, .ref mtn, .ref mh, .ref mhn, .ref mhw, .ref mhz, .ref mhr, .ref mcl, .ref mtp, .int 0, .int 0, .int 0, .int 0, .int 0, .int 0, .int 0, .int 0, .int 0, .int 0, .int 0, .ref mna, .ref mpi, .ref mca, .ref mwa, .int 0, .ref mrd])), (ms, .inl (kms, 3047, .inl vf))]) (TC := [(kms, .int)]) (WR := [(mcl, .inl (kcl, 47, .inl c9335))]) (TR := [(kcl, .int)]) (k := 0) (n := 0) Z357 [0, 1] [2] [0] [1] rfl rfl (by decide +kernel) (by decide +kernel) (by decide +kernel) rfl rfl (fun Zc => va_runV (As := [.int 0]) (rest := []) X (c7_goesOnBy l D mo ms mi ma mts mtz mtn mh mhn mhw mhz mhr mcl mtp mna mpi mca mwa mrd 0 0 0 0 0 0 0 0 0 0 0 0 0 kms vf 0 v2 0 0 v5 v6 v7 3 10 0 0 hin.1 hin.2.1 hin.2.2.1 hin.2.2.2.1 hin.2.2.2.2.1 hin.2.2.2.2.2.1 hin.2.2.2.2.2.2.1 hin.2.2.2.2.2.2.2.1 hin.2.2.2.2.2.2.2.2.1 hin.2.2.2.2.2.2.2.2.2.1 hin.2.2.2.2.2.2.2.2.2.2 H354.size) (cwV 1 hts gX7_best_X7_goesOnBy rfl rfl rfl ⟨rfl, zh_X7_goesOnBy⟩ ⟨Nat.le_of_ble_eq_true rfl, Nat.le_of_ble_eq_true rfl⟩) (zz_pV (ci := 7) Zc 0 rfl rfl) rfl rfl hl361.1 rfl (lv_room (Nat.le_of_ble_eq_true rfl)) dX7_best_105 ⟨Nat.le_of_ble_eq_true rfl, Nat.le_of_ble_eq_true rfl⟩) rfl rfl (fun u470 H376 locs377 hw471 Z378 => ?_)
                        clear Z357
                        obtain ⟨f9473, F9474, T9475, Z9476⟩ := u470
                        try dsimp only at hw471 Z378
                        obtain ⟨⟨p477, p478, p479, p480, p481, p482, p483, p484, p485, p486, p487⟩, hx488⟩ := hw471
                        obtain ⟨rfl, rfl, rfl⟩ := hx488
                        have Z379 : zz_S D A s [(mcl, .inl (kcl, 47, .inl c9335)), (mo, .inr (7, [.ref ms, .ref mi, .ref ma, .int 0, .ref mts, .ref mtz, .ref mtn, .ref mh, .ref mhn, .ref mhw, .ref mhz, .ref mhr, .ref mcl, .ref mtp, .int 0, .int 0, .int 0, .int 0, .int 0, .int 0, .int 0, .int 0, .int 0, .int 0, .int 0, .ref mna, .ref mpi, .ref mca, .ref mwa, .int 0, .ref mrd])), (ms, .inl (kms, 3047, .inl f9473))] [(kcl, .int), (kms, .int)] H376 locs377 := Z378
                        clear Z378
                        refine lv_iload hx hb dX7_best_108 (lv_at hl361 1 rfl) ?_
                        refine lv_iconst (v := 3) hx hb dX7_best_110 (by decide) ?_
                        refine lv_idiv hx hb dX7_best_111 (by decide) ?_
                        refine zz_v (v := nI (zz_pw t)) (zz_pw3 t (by omega)) ?_
                        refine lv_istore (lv' := [(7, .int (nI (zz_pw t))), (8, .int y428), (6, .int (nI i)), (5, .int 0), (4, .int 0), (3, .int 9), (0, .ref mo), (1, .int 3), (2, .int what)]) hx hb dX7_best_112 hl361 (by decide) rfl (fun ls380 hl381 => ?_)
                        clear hl361
                        refine lv_goto (tgt := 70) hx hb dX7_best_114 (by decide) ?_
                        have Z382 := Z379.sub (WS' := [(mo, .inr (7, [.ref ms, .ref mi, .ref ma, .int 0, .ref mts, .ref mtz, .ref mtn, .ref mh, .ref mhn, .ref mhw, .ref mhz, .ref mhr, .ref mcl, .ref mtp, .int 0, .int 0, .int 0, .int 0, .int 0, .int 0, .int 0, .int 0, .int 0, .int 0, .int 0, .ref mna, .ref mpi, .ref mca, .ref mwa, .int 0, .ref mrd])), (ms, .inl (kms, 3047, .inl f9473)), (mcl, .inl (kcl, 47, .inl c9335))]) (TYS' := [(kms, .int), (kcl, .int)]) [1, 2, 0] [1, 0] (by decide +kernel) rfl rfl
                        clear Z379
                        exact iht (by omega) f9473 (v2 + 1) (zz_bT v5 v6 10) (zz_bZ v6 10) (zz_mF v7 0 v6 3 10) ⟨p477, p478, p479, p480, p481, p482, p483, p484, p485, p486, p487⟩ _ _ _ Z382 (lv_sub hl381 [0, 2, 3, 4, 5, 6, 7, 8] rfl)
                exact inner 3 (by decide) vf 0 0 1 0 ⟨hinv.1, hinv.2.1, hinv.2.2.1, hinv.2.2.2.1, hinv.2.2.2.2.1, hinv.2.2.2.2.2.1, hinv.2.2.2.2.2.2.1, hinv.2.2.2.2.2.2.2.1, hinv.2.2.2.2.2.2.2.2.1, hinv.2.2.2.2.2.2.2.2.2.1, hinv.2.2.2.2.2.2.2.2.2.2.1⟩ _ _ _ Z287 hl339
        exact loop 27 0 f (-1) (by omega) ⟨af_0, af_1, af_2, af_3, af_4, af_5, af_6, af_7, af_8, af_9, af_10, (Or.inl ⟨rfl, rfl⟩)⟩ _ _ _ Z272 hl278
      · refine zz_v (v := 0) (zz_wiF w331) ?_
        refine lv_if_ne (tgt := 25) hx hb dX7_best_19 (by decide) (fun h => absurd (by decide) h) (fun _ => ?_)
        refine lv_ldc (v := (-1000000001)) hx hb hown (hts _ (zz_m 2 rfl)) dX7_best_22 ?_
        exact zz_iret X hr hlk Z256 () (by simp [sp_best, w331]) [] [] (by decide +kernel) rfl rfl dX7_best_24
    · have e5 : n = 4 := e5
      subst e5
      refine zz_v (v := 1) (by decide) ?_
      refine lv_if_eq (tgt := 22) hx hb dX7_best_9 (by decide) (fun h => absurd h (by decide)) (fun _ => ?_)
      refine lv_iload_n hx hb dX7_best_12 rfl (lv_at hl 2 rfl) ?_
      refine lv_i2l (v := Int32.toInt64 what) hx hb dX7_best_13 rfl ?_
      refine lv_lconst (v := 0) hx hb dX7_best_14 (by decide) ?_
      refine zz_vl (v := Int32.toInt64 0) (by decide) ?_
      refine lv_lconst (v := 1) hx hb dX7_best_15 (by decide) ?_
      refine zz_vl (v := Int32.toInt64 1) (by decide) ?_
      refine zz_ci (WC := []) (TC := []) (WR := [(mo, .inr (7, [.ref ms, .ref mi, .ref ma, .int 0, .ref mts, .ref mtz, .ref mtn, .ref mh, .ref mhn, .ref mhw, .ref mhz, .ref mhr, .ref mcl, .ref mtp, .int 0, .int 0, .int 0, .int 0, .int 0, .int 0, .int 0, .int 0, .int 0, .int 0, .int 0, .ref mna, .ref mpi, .ref mca, .ref mwa, .int 0, .ref mrd])), (ms, .inl (kms, 3047, .inl f)), (mcl, .inl (kcl, 47, .inl cf))]) (TR := [(kms, .int), (kcl, .int)]) (k := 0) (n := 0) Z4 [] [0, 1, 2] [] [0, 1] rfl rfl (by decide +kernel) (by decide +kernel) (by decide +kernel) rfl rfl (fun Zc => va_runS (As := [.long (Int32.toInt64 what), .long (Int32.toInt64 0), .long (Int32.toInt64 1)]) (rest := []) X (c_isIn l D what 0 1 H1.size) (va_cwS 3 hts gX7_best_X7_isIn rfl rfl rfl zh_X7_isIn ⟨Nat.le_of_ble_eq_true rfl, Nat.le_of_ble_eq_true rfl⟩) (zz_pS Zc) rfl rfl hl.1 rfl (lv_room (Nat.le_of_ble_eq_true rfl)) dX7_best_16 ⟨Nat.le_of_ble_eq_true rfl, Nat.le_of_ble_eq_true rfl⟩) rfl rfl (fun r491 u489 H383 locs384 hw490 Z385 => ?_)
      clear Z4
      subst r491
      have Z386 : zz_S D A s [(mo, .inr (7, [.ref ms, .ref mi, .ref ma, .int 0, .ref mts, .ref mtz, .ref mtn, .ref mh, .ref mhn, .ref mhw, .ref mhz, .ref mhr, .ref mcl, .ref mtp, .int 0, .int 0, .int 0, .int 0, .int 0, .int 0, .int 0, .int 0, .int 0, .int 0, .int 0, .ref mna, .ref mpi, .ref mca, .ref mwa, .int 0, .ref mrd])), (ms, .inl (kms, 3047, .inl f)), (mcl, .inl (kcl, 47, .inl cf))] [(kms, .int), (kcl, .int)] H383 locs384 := Z385
      clear Z385
      by_cases w492 : 0 ≤ what ∧ what ≤ 1
      · refine zz_v (v := 1) (zz_wiT w492) ?_
        refine lv_if_ne (tgt := 25) hx hb dX7_best_19 (by decide) (fun _ => ?_) (fun h => absurd h (by decide))
        refine lv_iconst (v := 1) hx hb dX7_best_25 (by decide) ?_
        refine lv_istore_n (lv' := [(3, .int 1), (0, .ref mo), (1, .int 4), (2, .int what)]) hx hb dX7_best_26 rfl hl (by decide) rfl (fun ls387 hl388 => ?_)
        clear hl
        refine lv_iconst (v := 1) hx hb dX7_best_27 (by decide) ?_
        refine lv_istore (lv' := [(4, .int 1), (3, .int 1), (0, .ref mo), (1, .int 4), (2, .int what)]) hx hb dX7_best_28 hl388 (by decide) rfl (fun ls389 hl390 => ?_)
        clear hl388
        refine lv_iload hx hb dX7_best_30 (lv_at hl390 0 rfl) ?_
        refine lv_iload_n hx hb dX7_best_32 rfl (lv_at hl390 3 rfl) ?_
        refine lv_icmp_ge (tgt := 46) hx hb dX7_best_33 (by decide) (fun h => absurd h (by decide)) (fun _ => ?_)
        refine lv_iload_n hx hb dX7_best_36 rfl (lv_at hl390 1 rfl) ?_
        refine lv_iconst (v := 3) hx hb dX7_best_37 (by decide) ?_
        refine lv_imul hx hb dX7_best_38 ?_
        refine zz_v (v := 3) (by decide) ?_
        refine lv_istore_n (lv' := [(3, .int 3), (4, .int 1), (0, .ref mo), (1, .int 4), (2, .int what)]) hx hb dX7_best_39 rfl hl390 (by decide) rfl (fun ls391 hl392 => ?_)
        clear hl390
        refine lv_iinc (v := 2) (lv' := [(4, .int 2), (3, .int 3), (0, .ref mo), (1, .int 4), (2, .int what)]) hx hb dX7_best_40 hl392 (k := 1) rfl (by decide) (by decide) rfl (fun ls393 hl394 => ?_)
        clear hl392
        refine lv_goto (tgt := 30) hx hb dX7_best_43 (by decide) ?_
        refine lv_iload hx hb dX7_best_30 (lv_at hl394 0 rfl) ?_
        refine lv_iload_n hx hb dX7_best_32 rfl (lv_at hl394 3 rfl) ?_
        refine lv_icmp_ge (tgt := 46) hx hb dX7_best_33 (by decide) (fun h => absurd h (by decide)) (fun _ => ?_)
        refine lv_iload_n hx hb dX7_best_36 rfl (lv_at hl394 1 rfl) ?_
        refine lv_iconst (v := 3) hx hb dX7_best_37 (by decide) ?_
        refine lv_imul hx hb dX7_best_38 ?_
        refine zz_v (v := 9) (by decide) ?_
        refine lv_istore_n (lv' := [(3, .int 9), (4, .int 2), (0, .ref mo), (1, .int 4), (2, .int what)]) hx hb dX7_best_39 rfl hl394 (by decide) rfl (fun ls395 hl396 => ?_)
        clear hl394
        refine lv_iinc (v := 3) (lv' := [(4, .int 3), (3, .int 9), (0, .ref mo), (1, .int 4), (2, .int what)]) hx hb dX7_best_40 hl396 (k := 1) rfl (by decide) (by decide) rfl (fun ls397 hl398 => ?_)
        clear hl396
        refine lv_goto (tgt := 30) hx hb dX7_best_43 (by decide) ?_
        refine lv_iload hx hb dX7_best_30 (lv_at hl398 0 rfl) ?_
        refine lv_iload_n hx hb dX7_best_32 rfl (lv_at hl398 3 rfl) ?_
        refine lv_icmp_ge (tgt := 46) hx hb dX7_best_33 (by decide) (fun h => absurd h (by decide)) (fun _ => ?_)
        refine lv_iload_n hx hb dX7_best_36 rfl (lv_at hl398 1 rfl) ?_
        refine lv_iconst (v := 3) hx hb dX7_best_37 (by decide) ?_
        refine lv_imul hx hb dX7_best_38 ?_
        refine zz_v (v := 27) (by decide) ?_
        refine lv_istore_n (lv' := [(3, .int 27), (4, .int 3), (0, .ref mo), (1, .int 4), (2, .int what)]) hx hb dX7_best_39 rfl hl398 (by decide) rfl (fun ls399 hl400 => ?_)
        clear hl398
        refine lv_iinc (v := 4) (lv' := [(4, .int 4), (3, .int 27), (0, .ref mo), (1, .int 4), (2, .int what)]) hx hb dX7_best_40 hl400 (k := 1) rfl (by decide) (by decide) rfl (fun ls401 hl402 => ?_)
        clear hl400
        refine lv_goto (tgt := 30) hx hb dX7_best_43 (by decide) ?_
        refine lv_iload hx hb dX7_best_30 (lv_at hl402 0 rfl) ?_
        refine lv_iload_n hx hb dX7_best_32 rfl (lv_at hl402 3 rfl) ?_
        refine lv_icmp_ge (tgt := 46) hx hb dX7_best_33 (by decide) (fun _ => ?_) (fun h => absurd (by decide) h)
        refine lv_aload_n hx hb dX7_best_46 rfl (lv_at hl402 2 rfl) ?_
        refine zz_cv (WC := [(mo, .inr (7, [.ref ms, .ref mi, .ref ma, .int 0, .ref mts, .ref mtz, .ref mtn, .ref mh, .ref mhn, .ref mhw, .ref mhz, .ref mhr, .ref mcl, .ref mtp, .int 0, .int 0, .int 0, .int 0, .int 0, .int 0, .int 0, .int 0, .int 0, .int 0, .int 0, .ref mna, .ref mpi, .ref mca, .ref mwa, .int 0, .ref mrd])), (ms, .inl (kms, 3047, .inl f)), (mcl, .inl (kcl, 47, .inl cf))]) (TC := [(kms, .int), (kcl, .int)]) (WR := []) (TR := []) (k := 0) (n := 0) Z386 [0, 1, 2] [] [0, 1] [] rfl rfl (by decide +kernel) (by decide +kernel) (by decide +kernel) rfl rfl (fun Zc => va_runV (As := []) (rest := []) X (c7_laysBy l D mo ms mi ma mts mtz mtn mh mhn mhw mhz mhr mcl mtp mna mpi mca mwa mrd 0 0 0 0 0 0 0 0 0 0 0 0 0 kms f kcl cf H383.size) (cwV 0 hts gX7_best_X7_laysBy rfl rfl rfl ⟨rfl, zh_X7_laysBy⟩ ⟨Nat.le_of_ble_eq_true rfl, Nat.le_of_ble_eq_true rfl⟩) (zz_pV (ci := 7) Zc 0 rfl rfl) rfl rfl hl402.1 rfl (lv_room (Nat.le_of_ble_eq_true rfl)) dX7_best_47 ⟨Nat.le_of_ble_eq_true rfl, Nat.le_of_ble_eq_true rfl⟩) rfl rfl (fun u493 H403 locs404 hw494 Z405 => ?_)
        clear Z386
        obtain ⟨c9496, rfl⟩ : ∃ z, z = u493 := ⟨_, rfl⟩
        try dsimp only at hw494 Z405
        have Z406 : zz_S D A s [(mo, .inr (7, [.ref ms, .ref mi, .ref ma, .int 0, .ref mts, .ref mtz, .ref mtn, .ref mh, .ref mhn, .ref mhw, .ref mhz, .ref mhr, .ref mcl, .ref mtp, .int 0, .int 0, .int 0, .int 0, .int 0, .int 0, .int 0, .int 0, .int 0, .int 0, .int 0, .ref mna, .ref mpi, .ref mca, .ref mwa, .int 0, .ref mrd])), (ms, .inl (kms, 3047, .inl f)), (mcl, .inl (kcl, 47, .inl c9496))] [(kms, .int), (kcl, .int)] H403 locs404 := Z405
        clear Z405
        refine lv_iconst (v := (-1)) hx hb dX7_best_50 (by decide) ?_
        refine lv_istore (lv' := [(4, .int (-1)), (3, .int 27), (0, .ref mo), (1, .int 4), (2, .int what)]) hx hb dX7_best_51 hl402 (by decide) rfl (fun ls407 hl408 => ?_)
        clear hl402
        refine lv_iconst (v := 0) hx hb dX7_best_53 (by decide) ?_
        refine lv_istore (lv' := [(5, .int 0), (4, .int (-1)), (3, .int 27), (0, .ref mo), (1, .int 4), (2, .int what)]) hx hb dX7_best_54 hl408 (by decide) rfl (fun ls409 hl410 => ?_)
        clear hl408
        refine lv_iconst (v := 0) hx hb dX7_best_56 (by decide) ?_
        refine lv_istore (lv' := [(6, .int 0), (5, .int 0), (4, .int (-1)), (3, .int 27), (0, .ref mo), (1, .int 4), (2, .int what)]) hx hb dX7_best_57 hl410 (by decide) rfl (fun ls411 hl412 => ?_)
        clear hl410
        have loop : ∀ (k i : Nat) (vf : Nat → Int32) (vb : Int32), i + k = 81 → (vf 0 = 0 ∧ vf 1 = 0 ∧ vf 2 = 0 ∧ vf 3 = 0 ∧ vf 4 = 0 ∧ vf 5 = 0 ∧ vf 6 = 1 ∧ vf 7 = 0 ∧ vf 8 = 3 ∧ vf 9 = 10 ∧ vf 10 = 0 ∧ ((i = 0 ∧ vb = -1) ∨ (0 < i ∧ vb = 0))) → ∀ (Hq : Heap) (Lq : List Loc) (lq : Array Slot), zz_S D A s [(mo, .inr (7, [.ref ms, .ref mi, .ref ma, .int 0, .ref mts, .ref mtz, .ref mtn, .ref mh, .ref mhn, .ref mhw, .ref mhz, .ref mhr, .ref mcl, .ref mtp, .int 0, .int 0, .int 0, .int 0, .int 0, .int 0, .int 0, .int 0, .int 0, .int 0, .int 0, .ref mna, .ref mpi, .ref mca, .ref mwa, .int 0, .ref mrd])), (ms, .inl (kms, 3047, .inl vf)), (mcl, .inl (kcl, 47, .inl c9496))] [(kms, .int), (kcl, .int)] Hq Lq → lv_has lq 9 [(6, .int (nI i)), (5, .int 0), (4, .int vb), (3, .int 27), (0, .ref mo), (1, .int 4), (2, .int what)] → W p l e (headSpec wsX7_best { frames := 3, cells := 0, slots := 0, locals := 64 }).room s m (List.toArray [.ref mo, .int 4, .int what]) below meth c Hq Lq 0 0 (MQ below (va_Qi (fun (r : Int32) (u : Unit) => r = sp_best 4 what) (fun u t => zz_B D A ((fun (u : Unit) => []) u) ((fun (u : Unit) => []) u) t) A) (List.toArray [.ref mo, .int 4, .int what]) s 0 0 A) (F0 m 59 lq []) := by
          intro k
          induction k with
          | zero =>
              intro i vf vb hik hinv H413 locs414 ls415 Z416 hl417
              rcases hinv.2.2.2.2.2.2.2.2.2.2.2 with ⟨h0, hv⟩ | ⟨h0, hv⟩
              · omega
              subst hv
              refine lv_iload hx hb dX7_best_59 (lv_at hl417 0 rfl) ?_
              refine lv_iconst (v := 3) hx hb dX7_best_61 (by decide) ?_
              refine lv_iload_n hx hb dX7_best_62 rfl (lv_at hl417 3 rfl) ?_
              refine lv_imul hx hb dX7_best_63 ?_
              refine zz_v (v := 81) (by decide) ?_
              refine lv_icmp_ge (tgt := 155) hx hb dX7_best_64 (by decide) (fun _ => ?_) (fun h => absurd (nI_le (a := 81) (b := i) (by omega) (by omega)) h)
              refine lv_iload_n hx hb dX7_best_155 rfl (lv_at hl417 6 rfl) ?_
              refine lv_if_ne (tgt := 164) hx hb dX7_best_156 (by decide) (fun b497 => ?_) (fun b497 => ?_)
              · refine lv_iload hx hb dX7_best_164 (lv_at hl417 1 rfl) ?_
                exact zz_iret X hr hlk Z416 () (by simp [sp_best, w492]) [] [] (by decide +kernel) rfl rfl dX7_best_166
              · refine lv_iload hx hb dX7_best_159 (lv_at hl417 2 rfl) ?_
                refine lv_goto (tgt := 166) hx hb dX7_best_161 (by decide) ?_
                exact zz_iret X hr hlk Z416 () (by simp [sp_best, w492]) [] [] (by decide +kernel) rfl rfl dX7_best_166
          | succ k ih =>
              intro i vf vb hik hinv H418 locs419 ls420 Z421 hl422
              rcases hinv.2.2.2.2.2.2.2.2.2.2.2 with ⟨h0, hv⟩ | ⟨h0, hv⟩
              · subst hv
                refine lv_iload hx hb dX7_best_59 (lv_at hl422 0 rfl) ?_
                refine lv_iconst (v := 3) hx hb dX7_best_61 (by decide) ?_
                refine lv_iload_n hx hb dX7_best_62 rfl (lv_at hl422 3 rfl) ?_
                refine lv_imul hx hb dX7_best_63 ?_
                refine zz_v (v := 81) (by decide) ?_
                refine lv_icmp_ge (tgt := 155) hx hb dX7_best_64 (by decide) (fun h => absurd h (nI_ge (a := i) (b := 81) (by omega) (by omega))) (fun _ => ?_)
                refine lv_iload_n hx hb dX7_best_67 rfl (lv_at hl422 3 rfl) ?_
                refine lv_istore (lv' := [(7, .int 27), (6, .int (nI i)), (5, .int 0), (4, .int (-1)), (3, .int 27), (0, .ref mo), (1, .int 4), (2, .int what)]) hx hb dX7_best_68 hl422 (by decide) rfl (fun ls423 hl424 => ?_)
                clear hl422
                have inner : ∀ (t : Nat), t ≤ 5 → ∀ (vf : Nat → Int32) (v2 v5 v6 v7 : Int32), vf 0 = 0 ∧ vf 1 = 0 ∧ vf 2 = v2 ∧ vf 3 = 0 ∧ vf 4 = 0 ∧ vf 5 = v5 ∧ vf 6 = v6 ∧ vf 7 = v7 ∧ vf 8 = 3 ∧ vf 9 = 10 ∧ vf 10 = 0 → ∀ (Hq : Heap) (Lq : List Loc) (lq : Array Slot), zz_S D A s [(mo, .inr (7, [.ref ms, .ref mi, .ref ma, .int 0, .ref mts, .ref mtz, .ref mtn, .ref mh, .ref mhn, .ref mhw, .ref mhz, .ref mhr, .ref mcl, .ref mtp, .int 0, .int 0, .int 0, .int 0, .int 0, .int 0, .int 0, .int 0, .int 0, .int 0, .int 0, .ref mna, .ref mpi, .ref mca, .ref mwa, .int 0, .ref mrd])), (ms, .inl (kms, 3047, .inl vf)), (mcl, .inl (kcl, 47, .inl c9496))] [(kms, .int), (kcl, .int)] Hq Lq → lv_has lq 9 [(7, .int (nI (zz_pw t))), (6, .int (nI i)), (5, .int 0), (4, .int (-1)), (3, .int 27), (0, .ref mo), (1, .int 4), (2, .int what)] → W p l e (headSpec wsX7_best { frames := 3, cells := 0, slots := 0, locals := 64 }).room s m (List.toArray [.ref mo, .int 4, .int what]) below meth c Hq Lq 0 0 (MQ below (va_Qi (fun (r : Int32) (u : Unit) => r = sp_best 4 what) (fun u t => zz_B D A ((fun (u : Unit) => []) u) ((fun (u : Unit) => []) u) t) A) (List.toArray [.ref mo, .int 4, .int what]) s 0 0 A) (F0 m 70 lq []) := by
                  intro t
                  induction t with
                  | zero =>
                      intro ht vf v2 v5 v6 v7 hin H425 locs426 ls427 Z428 hl429
                      have hl430 : lv_has ls427 9 [(7, .int 0), (6, .int (nI i)), (5, .int 0), (4, .int (-1)), (3, .int 27), (0, .ref mo), (1, .int 4), (2, .int what)] := hl429
                      clear hl429
                      refine lv_iload hx hb dX7_best_70 (lv_at hl430 0 rfl) ?_
                      refine lv_if_le (tgt := 117) hx hb dX7_best_72 (by decide) (fun _ => ?_) (fun h => absurd (by decide) h)
                      refine lv_aload_n hx hb dX7_best_117 rfl (lv_at hl430 5 rfl) ?_
                      refine zz_get X Z428 0 rfl rfl (fun w h => List.mem_cons_of_mem _ (List.mem_append_right _ h)) 0 rfl (zz_m 3 rfl) rfl dX7_best_118 ?_
                      refine lv_iconst (v := 4) hx hb dX7_best_121 (by decide) ?_
                      refine zz_ild X Z428 1 0 rfl rfl (zz_in 4 3047 rfl) dX7_best_122 ?_
                      refine zz_v (v := 0) hin.2.2.2.2.1 ?_
                      refine lv_istore (lv' := [(7, .int 0), (6, .int (nI i)), (5, .int 0), (4, .int (-1)), (3, .int 27), (0, .ref mo), (1, .int 4), (2, .int what)]) hx hb dX7_best_123 hl430 (by decide) rfl (fun ls431 hl432 => ?_)
                      clear hl430
                      refine lv_aload_n hx hb dX7_best_125 rfl (lv_at hl432 5 rfl) ?_
                      refine zz_cv (WC := [(mo, .inr (7, [.ref ms, .ref mi, .ref ma, .int 0, .ref mts, .ref mtz, .ref mtn, .ref mh, .ref mhn, .ref mhw, .ref mhz, .ref mhr, .ref mcl, .ref mtp, .int 0, .int 0, .int 0, .int 0, .int 0, .int 0, .int 0, .int 0, .int 0, .int 0, .int 0, .ref mna, .ref mpi, .ref mca, .ref mwa, .int 0, .ref mrd])), (ms, .inl (kms, 3047, .inl vf)), (mcl, .inl (kcl, 47, .inl c9496))]) (TC := [(kms, .int), (kcl, .int)]) (WR := []) (TR := []) (k := 0) (n := 0) Z428 [0, 1, 2] [] [0, 1] [] rfl rfl (by decide +kernel) (by decide +kernel) (by decide +kernel) rfl rfl (fun Zc => va_runV (As := []) (rest := []) X (c7_laysBack l D mo ms mi ma mts mtz mtn mh mhn mhw mhz mhr mcl mtp mna mpi mca mwa mrd 0 0 0 0 0 0 0 0 0 0 0 0 0 kms vf kcl c9496 H425.size) (cwV 0 hts gX7_best_X7_laysBack rfl rfl rfl ⟨rfl, zh_X7_laysBack⟩ ⟨Nat.le_of_ble_eq_true rfl, Nat.le_of_ble_eq_true rfl⟩) (zz_pV (ci := 7) Zc 0 rfl rfl) rfl rfl hl432.1 rfl (lv_room (Nat.le_of_ble_eq_true rfl)) dX7_best_126 ⟨Nat.le_of_ble_eq_true rfl, Nat.le_of_ble_eq_true rfl⟩) rfl rfl (fun u498 H433 locs434 hw499 Z435 => ?_)
                      clear Z428
                      obtain ⟨f9501, rfl⟩ : ∃ z, z = u498 := ⟨_, rfl⟩
                      try dsimp only at hw499 Z435
                      have Z436 : zz_S D A s [(mo, .inr (7, [.ref ms, .ref mi, .ref ma, .int 0, .ref mts, .ref mtz, .ref mtn, .ref mh, .ref mhn, .ref mhw, .ref mhz, .ref mhr, .ref mcl, .ref mtp, .int 0, .int 0, .int 0, .int 0, .int 0, .int 0, .int 0, .int 0, .int 0, .int 0, .int 0, .ref mna, .ref mpi, .ref mca, .ref mwa, .int 0, .ref mrd])), (ms, .inl (kms, 3047, .inl f9501)), (mcl, .inl (kcl, 47, .inl c9496))] [(kms, .int), (kcl, .int)] H433 locs434 := Z435
                      clear Z435
                      have p502 : f9501 0 = 0 := (hw499 0 (by decide)).trans ((hw494 0 (by decide)).trans af_0)
                      have p503 : f9501 1 = 0 := (hw499 1 (by decide)).trans ((hw494 1 (by decide)).trans af_1)
                      have p504 : f9501 2 = 0 := (hw499 2 (by decide)).trans ((hw494 2 (by decide)).trans af_2)
                      have p505 : f9501 3 = 0 := (hw499 3 (by decide)).trans ((hw494 3 (by decide)).trans af_3)
                      have p506 : f9501 4 = 0 := (hw499 4 (by decide)).trans ((hw494 4 (by decide)).trans af_4)
                      have p507 : f9501 5 = 0 := (hw499 5 (by decide)).trans ((hw494 5 (by decide)).trans af_5)
                      have p508 : f9501 6 = 1 := (hw499 6 (by decide)).trans ((hw494 6 (by decide)).trans af_6)
                      have p509 : f9501 7 = 0 := (hw499 7 (by decide)).trans ((hw494 7 (by decide)).trans af_7)
                      have p510 : f9501 8 = 3 := (hw499 8 (by decide)).trans ((hw494 8 (by decide)).trans af_8)
                      have p511 : f9501 9 = 10 := (hw499 9 (by decide)).trans ((hw494 9 (by decide)).trans af_9)
                      have p512 : f9501 10 = 0 := (hw499 10 (by decide)).trans ((hw494 10 (by decide)).trans af_10)
                      refine lv_iload hx hb dX7_best_129 (lv_at hl432 3 rfl) ?_
                      refine lv_if_lt (tgt := 141) hx hb dX7_best_131 (by decide) (fun _ => ?_) (fun h => absurd (by decide) h)
                      refine lv_iload hx hb dX7_best_141 (lv_at hl432 1 rfl) ?_
                      refine lv_istore (lv' := [(4, .int (nI i)), (7, .int 0), (6, .int (nI i)), (5, .int 0), (3, .int 27), (0, .ref mo), (1, .int 4), (2, .int what)]) hx hb dX7_best_143 hl432 (by decide) rfl (fun ls437 hl438 => ?_)
                      clear hl432
                      refine lv_iload hx hb dX7_best_145 (lv_at hl438 1 rfl) ?_
                      refine lv_istore (lv' := [(5, .int 0), (4, .int (nI i)), (7, .int 0), (6, .int (nI i)), (3, .int 27), (0, .ref mo), (1, .int 4), (2, .int what)]) hx hb dX7_best_147 hl438 (by decide) rfl (fun ls439 hl440 => ?_)
                      clear hl438
                      refine lv_iinc (v := nI (i + 1)) (lv' := [(6, .int (nI (i + 1))), (5, .int 0), (4, .int (nI i)), (7, .int 0), (3, .int 27), (0, .ref mo), (1, .int 4), (2, .int what)]) hx hb dX7_best_149 hl440 (k := 3) rfl (nI_1 i) (by decide) rfl (fun ls441 hl442 => ?_)
                      clear hl440
                      refine lv_goto (tgt := 59) hx hb dX7_best_152 (by decide) ?_
                      exact ih (i + 1) f9501 (nI i) (by omega) ⟨p502, p503, p504, p505, p506, p507, p508, p509, p510, p511, p512, (Or.inr ⟨by omega, by rw [h0]; rfl⟩)⟩ _ _ _ Z436 (lv_sub hl442 [0, 1, 2, 4, 5, 6, 7] rfl)
                  | succ t iht =>
                      intro ht vf v2 v5 v6 v7 hin H443 locs444 ls445 Z446 hl447
                      have hl448 : lv_has ls445 9 [(7, .int (nI (zz_pw (t + 1)))), (6, .int (nI i)), (5, .int 0), (4, .int (-1)), (3, .int 27), (0, .ref mo), (1, .int 4), (2, .int what)] := hl447
                      clear hl447
                      refine lv_iload hx hb dX7_best_70 (lv_at hl448 0 rfl) ?_
                      refine lv_if_le (tgt := 117) hx hb dX7_best_72 (by decide) (fun h => absurd h (nI_nle (zz_pwP t (by omega)).1 (zz_pwP t (by omega)).2)) (fun _ => ?_)
                      refine lv_iload hx hb dX7_best_75 (lv_at hl448 1 rfl) ?_
                      refine lv_iload hx hb dX7_best_77 (lv_at hl448 0 rfl) ?_
                      refine lv_idiv hx hb dX7_best_79 (nI_ne0 (zz_pwP t (by omega)).1 (zz_pwP t (by omega)).2) ?_
                      refine lv_iconst (v := 3) hx hb dX7_best_80 (by decide) ?_
                      refine lv_irem hx hb dX7_best_81 (by decide) ?_
                      refine lv_topi (fun y513 ey514 => ?_)
                      refine lv_istore (lv' := [(8, .int y513), (7, .int (nI (zz_pw (t + 1)))), (6, .int (nI i)), (5, .int 0), (4, .int (-1)), (3, .int 27), (0, .ref mo), (1, .int 4), (2, .int what)]) hx hb dX7_best_82 hl448 (by decide) rfl (fun ls449 hl450 => ?_)
                      clear hl448
                      refine lv_aload_n hx hb dX7_best_84 rfl (lv_at hl450 6 rfl) ?_
                      refine lv_iload hx hb dX7_best_85 (lv_at hl450 0 rfl) ?_
                      refine lv_if_ne (tgt := 94) hx hb dX7_best_87 (by decide) (fun b515 => ?_) (fun b515 => ?_)
                      · refine lv_iload hx hb dX7_best_94 (lv_at hl450 0 rfl) ?_
                        refine lv_iconst (v := 1) hx hb dX7_best_96 (by decide) ?_
                        refine lv_icmp_ne (tgt := 104) hx hb dX7_best_97 (by decide) (fun b516 => ?_) (fun b516 => ?_)
                        · refine lv_iconst (v := 1) hx hb dX7_best_104 (by decide) ?_
                          refine zz_cv (WC := [(mo, .inr (7, [.ref ms, .ref mi, .ref ma, .int 0, .ref mts, .ref mtz, .ref mtn, .ref mh, .ref mhn, .ref mhw, .ref mhz, .ref mhr, .ref mcl, .ref mtp, .int 0, .int 0, .int 0, .int 0, .int 0, .int 0, .int 0, .int 0, .int 0, .int 0, .int 0, .ref mna, .ref mpi, .ref mca, .ref mwa, .int 0, .ref mrd])), (ms, .inl (kms, 3047, .inl vf))]) (TC := [(kms, .int)]) (WR := [(mcl, .inl (kcl, 47, .inl c9496))]) (TR := [(kcl, .int)]) (k := 0) (n := 0) Z446 [0, 1] [2] [0] [1] rfl rfl (by decide +kernel) (by decide +kernel) (by decide +kernel) rfl rfl (fun Zc => va_runV (As := [.int 1]) (rest := []) X (c7_goesOnBy l D mo ms mi ma mts mtz mtn mh mhn mhw mhz mhr mcl mtp mna mpi mca mwa mrd 0 0 0 0 0 0 0 0 0 0 0 0 0 kms vf 0 v2 0 0 v5 v6 v7 3 10 0 1 hin.1 hin.2.1 hin.2.2.1 hin.2.2.2.1 hin.2.2.2.2.1 hin.2.2.2.2.2.1 hin.2.2.2.2.2.2.1 hin.2.2.2.2.2.2.2.1 hin.2.2.2.2.2.2.2.2.1 hin.2.2.2.2.2.2.2.2.2.1 hin.2.2.2.2.2.2.2.2.2.2 H443.size) (cwV 1 hts gX7_best_X7_goesOnBy rfl rfl rfl ⟨rfl, zh_X7_goesOnBy⟩ ⟨Nat.le_of_ble_eq_true rfl, Nat.le_of_ble_eq_true rfl⟩) (zz_pV (ci := 7) Zc 0 rfl rfl) rfl rfl hl450.1 rfl (lv_room (Nat.le_of_ble_eq_true rfl)) dX7_best_105 ⟨Nat.le_of_ble_eq_true rfl, Nat.le_of_ble_eq_true rfl⟩) rfl rfl (fun u517 H451 locs452 hw518 Z453 => ?_)
                          clear Z446
                          obtain ⟨f9520, F9521, T9522, Z9523⟩ := u517
                          try dsimp only at hw518 Z453
                          obtain ⟨⟨p524, p525, p526, p527, p528, p529, p530, p531, p532, p533, p534⟩, hx535⟩ := hw518
                          obtain ⟨rfl, rfl, rfl⟩ := hx535
                          have Z454 : zz_S D A s [(mcl, .inl (kcl, 47, .inl c9496)), (mo, .inr (7, [.ref ms, .ref mi, .ref ma, .int 0, .ref mts, .ref mtz, .ref mtn, .ref mh, .ref mhn, .ref mhw, .ref mhz, .ref mhr, .ref mcl, .ref mtp, .int 0, .int 0, .int 0, .int 0, .int 0, .int 0, .int 0, .int 0, .int 0, .int 0, .int 0, .ref mna, .ref mpi, .ref mca, .ref mwa, .int 0, .ref mrd])), (ms, .inl (kms, 3047, .inl f9520))] [(kcl, .int), (kms, .int)] H451 locs452 := Z453
                          clear Z453
                          refine lv_iload hx hb dX7_best_108 (lv_at hl450 1 rfl) ?_
                          refine lv_iconst (v := 3) hx hb dX7_best_110 (by decide) ?_
                          refine lv_idiv hx hb dX7_best_111 (by decide) ?_
                          refine zz_v (v := nI (zz_pw t)) (zz_pw3 t (by omega)) ?_
                          refine lv_istore (lv' := [(7, .int (nI (zz_pw t))), (8, .int y513), (6, .int (nI i)), (5, .int 0), (4, .int (-1)), (3, .int 27), (0, .ref mo), (1, .int 4), (2, .int what)]) hx hb dX7_best_112 hl450 (by decide) rfl (fun ls455 hl456 => ?_)
                          clear hl450
                          refine lv_goto (tgt := 70) hx hb dX7_best_114 (by decide) ?_
                          have Z457 := Z454.sub (WS' := [(mo, .inr (7, [.ref ms, .ref mi, .ref ma, .int 0, .ref mts, .ref mtz, .ref mtn, .ref mh, .ref mhn, .ref mhw, .ref mhz, .ref mhr, .ref mcl, .ref mtp, .int 0, .int 0, .int 0, .int 0, .int 0, .int 0, .int 0, .int 0, .int 0, .int 0, .int 0, .ref mna, .ref mpi, .ref mca, .ref mwa, .int 0, .ref mrd])), (ms, .inl (kms, 3047, .inl f9520)), (mcl, .inl (kcl, 47, .inl c9496))]) (TYS' := [(kms, .int), (kcl, .int)]) [1, 2, 0] [1, 0] (by decide +kernel) rfl rfl
                          clear Z454
                          exact iht (by omega) f9520 (v2 + 1) (zz_bT v5 v6 10) (zz_bZ v6 10) (zz_mF v7 1 v6 3 10) ⟨p524, p525, p526, p527, p528, p529, p530, p531, p532, p533, p534⟩ _ _ _ Z457 (lv_sub hl456 [0, 2, 3, 4, 5, 6, 7, 8] rfl)
                        · refine lv_iconst (v := (-1)) hx hb dX7_best_100 (by decide) ?_
                          refine lv_goto (tgt := 105) hx hb dX7_best_101 (by decide) ?_
                          refine zz_cv (WC := [(mo, .inr (7, [.ref ms, .ref mi, .ref ma, .int 0, .ref mts, .ref mtz, .ref mtn, .ref mh, .ref mhn, .ref mhw, .ref mhz, .ref mhr, .ref mcl, .ref mtp, .int 0, .int 0, .int 0, .int 0, .int 0, .int 0, .int 0, .int 0, .int 0, .int 0, .int 0, .ref mna, .ref mpi, .ref mca, .ref mwa, .int 0, .ref mrd])), (ms, .inl (kms, 3047, .inl vf))]) (TC := [(kms, .int)]) (WR := [(mcl, .inl (kcl, 47, .inl c9496))]) (TR := [(kcl, .int)]) (k := 0) (n := 0) Z446 [0, 1] [2] [0] [1] rfl rfl (by decide +kernel) (by decide +kernel) (by decide +kernel) rfl rfl (fun Zc => va_runV (As := [.int (-1)]) (rest := []) X (c7_goesOnBy l D mo ms mi ma mts mtz mtn mh mhn mhw mhz mhr mcl mtp mna mpi mca mwa mrd 0 0 0 0 0 0 0 0 0 0 0 0 0 kms vf 0 v2 0 0 v5 v6 v7 3 10 0 (-1) hin.1 hin.2.1 hin.2.2.1 hin.2.2.2.1 hin.2.2.2.2.1 hin.2.2.2.2.2.1 hin.2.2.2.2.2.2.1 hin.2.2.2.2.2.2.2.1 hin.2.2.2.2.2.2.2.2.1 hin.2.2.2.2.2.2.2.2.2.1 hin.2.2.2.2.2.2.2.2.2.2 H443.size) (cwV 1 hts gX7_best_X7_goesOnBy rfl rfl rfl ⟨rfl, zh_X7_goesOnBy⟩ ⟨Nat.le_of_ble_eq_true rfl, Nat.le_of_ble_eq_true rfl⟩) (zz_pV (ci := 7) Zc 0 rfl rfl) rfl rfl hl450.1 rfl (lv_room (Nat.le_of_ble_eq_true rfl)) dX7_best_105 ⟨Nat.le_of_ble_eq_true rfl, Nat.le_of_ble_eq_true rfl⟩) rfl rfl (fun u536 H458 locs459 hw537 Z460 => ?_)
                          clear Z446
                          obtain ⟨f9539, F9540, T9541, Z9542⟩ := u536
                          try dsimp only at hw537 Z460
                          obtain ⟨⟨p543, p544, p545, p546, p547, p548, p549, p550, p551, p552, p553⟩, hx554⟩ := hw537
                          obtain ⟨rfl, rfl, rfl⟩ := hx554
                          have Z461 : zz_S D A s [(mcl, .inl (kcl, 47, .inl c9496)), (mo, .inr (7, [.ref ms, .ref mi, .ref ma, .int 0, .ref mts, .ref mtz, .ref mtn, .ref mh, .ref mhn, .ref mhw, .ref mhz, .ref mhr, .ref mcl, .ref mtp, .int 0, .int 0, .int 0, .int 0, .int 0, .int 0, .int 0, .int 0, .int 0, .int 0, .int 0, .ref mna, .ref mpi, .ref mca, .ref mwa, .int 0, .ref mrd])), (ms, .inl (kms, 3047, .inl f9539))] [(kcl, .int), (kms, .int)] H458 locs459 := Z460
                          clear Z460
                          refine lv_iload hx hb dX7_best_108 (lv_at hl450 1 rfl) ?_
                          refine lv_iconst (v := 3) hx hb dX7_best_110 (by decide) ?_
                          refine lv_idiv hx hb dX7_best_111 (by decide) ?_
                          refine zz_v (v := nI (zz_pw t)) (zz_pw3 t (by omega)) ?_
                          refine lv_istore (lv' := [(7, .int (nI (zz_pw t))), (8, .int y513), (6, .int (nI i)), (5, .int 0), (4, .int (-1)), (3, .int 27), (0, .ref mo), (1, .int 4), (2, .int what)]) hx hb dX7_best_112 hl450 (by decide) rfl (fun ls462 hl463 => ?_)
                          clear hl450
                          refine lv_goto (tgt := 70) hx hb dX7_best_114 (by decide) ?_
                          have Z464 := Z461.sub (WS' := [(mo, .inr (7, [.ref ms, .ref mi, .ref ma, .int 0, .ref mts, .ref mtz, .ref mtn, .ref mh, .ref mhn, .ref mhw, .ref mhz, .ref mhr, .ref mcl, .ref mtp, .int 0, .int 0, .int 0, .int 0, .int 0, .int 0, .int 0, .int 0, .int 0, .int 0, .int 0, .ref mna, .ref mpi, .ref mca, .ref mwa, .int 0, .ref mrd])), (ms, .inl (kms, 3047, .inl f9539)), (mcl, .inl (kcl, 47, .inl c9496))]) (TYS' := [(kms, .int), (kcl, .int)]) [1, 2, 0] [1, 0] (by decide +kernel) rfl rfl
                          clear Z461
                          exact iht (by omega) f9539 (v2 + 1) (zz_bT v5 v6 10) (zz_bZ v6 10) (zz_mF v7 (-1) v6 3 10) ⟨p543, p544, p545, p546, p547, p548, p549, p550, p551, p552, p553⟩ _ _ _ Z464 (lv_sub hl463 [0, 2, 3, 4, 5, 6, 7, 8] rfl)
                      · refine lv_iconst (v := 0) hx hb dX7_best_90 (by decide) ?_
                        refine lv_goto (tgt := 105) hx hb dX7_best_91 (by decide) ?_
                        refine zz_cv (WC := [(mo, .inr (7, [.ref ms, .ref mi, .ref ma, .int 0, .ref mts, .ref mtz, .ref mtn, .ref mh, .ref mhn, .ref mhw, .ref mhz, .ref mhr, .ref mcl, .ref mtp, .int 0, .int 0, .int 0, .int 0, .int 0, .int 0, .int 0, .int 0, .int 0, .int 0, .int 0, .ref mna, .ref mpi, .ref mca, .ref mwa, .int 0, .ref mrd])), (ms, .inl (kms, 3047, .inl vf))]) (TC := [(kms, .int)]) (WR := [(mcl, .inl (kcl, 47, .inl c9496))]) (TR := [(kcl, .int)]) (k := 0) (n := 0) Z446 [0, 1] [2] [0] [1] rfl rfl (by decide +kernel) (by decide +kernel) (by decide +kernel) rfl rfl (fun Zc => va_runV (As := [.int 0]) (rest := []) X (c7_goesOnBy l D mo ms mi ma mts mtz mtn mh mhn mhw mhz mhr mcl mtp mna mpi mca mwa mrd 0 0 0 0 0 0 0 0 0 0 0 0 0 kms vf 0 v2 0 0 v5 v6 v7 3 10 0 0 hin.1 hin.2.1 hin.2.2.1 hin.2.2.2.1 hin.2.2.2.2.1 hin.2.2.2.2.2.1 hin.2.2.2.2.2.2.1 hin.2.2.2.2.2.2.2.1 hin.2.2.2.2.2.2.2.2.1 hin.2.2.2.2.2.2.2.2.2.1 hin.2.2.2.2.2.2.2.2.2.2 H443.size) (cwV 1 hts gX7_best_X7_goesOnBy rfl rfl rfl ⟨rfl, zh_X7_goesOnBy⟩ ⟨Nat.le_of_ble_eq_true rfl, Nat.le_of_ble_eq_true rfl⟩) (zz_pV (ci := 7) Zc 0 rfl rfl) rfl rfl hl450.1 rfl (lv_room (Nat.le_of_ble_eq_true rfl)) dX7_best_105 ⟨Nat.le_of_ble_eq_true rfl, Nat.le_of_ble_eq_true rfl⟩) rfl rfl (fun u555 H465 locs466 hw556 Z467 => ?_)
                        clear Z446
                        obtain ⟨f9558, F9559, T9560, Z9561⟩ := u555
                        try dsimp only at hw556 Z467
                        obtain ⟨⟨p562, p563, p564, p565, p566, p567, p568, p569, p570, p571, p572⟩, hx573⟩ := hw556
                        obtain ⟨rfl, rfl, rfl⟩ := hx573
                        have Z468 : zz_S D A s [(mcl, .inl (kcl, 47, .inl c9496)), (mo, .inr (7, [.ref ms, .ref mi, .ref ma, .int 0, .ref mts, .ref mtz, .ref mtn, .ref mh, .ref mhn, .ref mhw, .ref mhz, .ref mhr, .ref mcl, .ref mtp, .int 0, .int 0, .int 0, .int 0, .int 0, .int 0, .int 0, .int 0, .int 0, .int 0, .int 0, .ref mna, .ref mpi, .ref mca, .ref mwa, .int 0, .ref mrd])), (ms, .inl (kms, 3047, .inl f9558))] [(kcl, .int), (kms, .int)] H465 locs466 := Z467
                        clear Z467
                        refine lv_iload hx hb dX7_best_108 (lv_at hl450 1 rfl) ?_
                        refine lv_iconst (v := 3) hx hb dX7_best_110 (by decide) ?_
                        refine lv_idiv hx hb dX7_best_111 (by decide) ?_
                        refine zz_v (v := nI (zz_pw t)) (zz_pw3 t (by omega)) ?_
                        refine lv_istore (lv' := [(7, .int (nI (zz_pw t))), (8, .int y513), (6, .int (nI i)), (5, .int 0), (4, .int (-1)), (3, .int 27), (0, .ref mo), (1, .int 4), (2, .int what)]) hx hb dX7_best_112 hl450 (by decide) rfl (fun ls469 hl470 => ?_)
                        clear hl450
                        refine lv_goto (tgt := 70) hx hb dX7_best_114 (by decide) ?_
                        have Z471 := Z468.sub (WS' := [(mo, .inr (7, [.ref ms, .ref mi, .ref ma, .int 0, .ref mts, .ref mtz, .ref mtn, .ref mh, .ref mhn, .ref mhw, .ref mhz, .ref mhr, .ref mcl, .ref mtp, .int 0, .int 0, .int 0, .int 0, .int 0, .int 0, .int 0, .int 0, .int 0, .int 0, .int 0, .ref mna, .ref mpi, .ref mca, .ref mwa, .int 0, .ref mrd])), (ms, .inl (kms, 3047, .inl f9558)), (mcl, .inl (kcl, 47, .inl c9496))]) (TYS' := [(kms, .int), (kcl, .int)]) [1, 2, 0] [1, 0] (by decide +kernel) rfl rfl
                        clear Z468
                        exact iht (by omega) f9558 (v2 + 1) (zz_bT v5 v6 10) (zz_bZ v6 10) (zz_mF v7 0 v6 3 10) ⟨p562, p563, p564, p565, p566, p567, p568, p569, p570, p571, p572⟩ _ _ _ Z471 (lv_sub hl470 [0, 2, 3, 4, 5, 6, 7, 8] rfl)
                exact inner 4 (by decide) vf 0 0 1 0 ⟨hinv.1, hinv.2.1, hinv.2.2.1, hinv.2.2.2.1, hinv.2.2.2.2.1, hinv.2.2.2.2.2.1, hinv.2.2.2.2.2.2.1, hinv.2.2.2.2.2.2.2.1, hinv.2.2.2.2.2.2.2.2.1, hinv.2.2.2.2.2.2.2.2.2.1, hinv.2.2.2.2.2.2.2.2.2.2.1⟩ _ _ _ Z421 hl424
              · subst hv
                refine lv_iload hx hb dX7_best_59 (lv_at hl422 0 rfl) ?_
                refine lv_iconst (v := 3) hx hb dX7_best_61 (by decide) ?_
                refine lv_iload_n hx hb dX7_best_62 rfl (lv_at hl422 3 rfl) ?_
                refine lv_imul hx hb dX7_best_63 ?_
                refine zz_v (v := 81) (by decide) ?_
                refine lv_icmp_ge (tgt := 155) hx hb dX7_best_64 (by decide) (fun h => absurd h (nI_ge (a := i) (b := 81) (by omega) (by omega))) (fun _ => ?_)
                refine lv_iload_n hx hb dX7_best_67 rfl (lv_at hl422 3 rfl) ?_
                refine lv_istore (lv' := [(7, .int 27), (6, .int (nI i)), (5, .int 0), (4, .int 0), (3, .int 27), (0, .ref mo), (1, .int 4), (2, .int what)]) hx hb dX7_best_68 hl422 (by decide) rfl (fun ls472 hl473 => ?_)
                clear hl422
                have inner : ∀ (t : Nat), t ≤ 5 → ∀ (vf : Nat → Int32) (v2 v5 v6 v7 : Int32), vf 0 = 0 ∧ vf 1 = 0 ∧ vf 2 = v2 ∧ vf 3 = 0 ∧ vf 4 = 0 ∧ vf 5 = v5 ∧ vf 6 = v6 ∧ vf 7 = v7 ∧ vf 8 = 3 ∧ vf 9 = 10 ∧ vf 10 = 0 → ∀ (Hq : Heap) (Lq : List Loc) (lq : Array Slot), zz_S D A s [(mo, .inr (7, [.ref ms, .ref mi, .ref ma, .int 0, .ref mts, .ref mtz, .ref mtn, .ref mh, .ref mhn, .ref mhw, .ref mhz, .ref mhr, .ref mcl, .ref mtp, .int 0, .int 0, .int 0, .int 0, .int 0, .int 0, .int 0, .int 0, .int 0, .int 0, .int 0, .ref mna, .ref mpi, .ref mca, .ref mwa, .int 0, .ref mrd])), (ms, .inl (kms, 3047, .inl vf)), (mcl, .inl (kcl, 47, .inl c9496))] [(kms, .int), (kcl, .int)] Hq Lq → lv_has lq 9 [(7, .int (nI (zz_pw t))), (6, .int (nI i)), (5, .int 0), (4, .int 0), (3, .int 27), (0, .ref mo), (1, .int 4), (2, .int what)] → W p l e (headSpec wsX7_best { frames := 3, cells := 0, slots := 0, locals := 64 }).room s m (List.toArray [.ref mo, .int 4, .int what]) below meth c Hq Lq 0 0 (MQ below (va_Qi (fun (r : Int32) (u : Unit) => r = sp_best 4 what) (fun u t => zz_B D A ((fun (u : Unit) => []) u) ((fun (u : Unit) => []) u) t) A) (List.toArray [.ref mo, .int 4, .int what]) s 0 0 A) (F0 m 70 lq []) := by
                  intro t
                  induction t with
                  | zero =>
                      intro ht vf v2 v5 v6 v7 hin H474 locs475 ls476 Z477 hl478
                      have hl479 : lv_has ls476 9 [(7, .int 0), (6, .int (nI i)), (5, .int 0), (4, .int 0), (3, .int 27), (0, .ref mo), (1, .int 4), (2, .int what)] := hl478
                      clear hl478
                      refine lv_iload hx hb dX7_best_70 (lv_at hl479 0 rfl) ?_
                      refine lv_if_le (tgt := 117) hx hb dX7_best_72 (by decide) (fun _ => ?_) (fun h => absurd (by decide) h)
                      refine lv_aload_n hx hb dX7_best_117 rfl (lv_at hl479 5 rfl) ?_
                      refine zz_get X Z477 0 rfl rfl (fun w h => List.mem_cons_of_mem _ (List.mem_append_right _ h)) 0 rfl (zz_m 3 rfl) rfl dX7_best_118 ?_
                      refine lv_iconst (v := 4) hx hb dX7_best_121 (by decide) ?_
                      refine zz_ild X Z477 1 0 rfl rfl (zz_in 4 3047 rfl) dX7_best_122 ?_
                      refine zz_v (v := 0) hin.2.2.2.2.1 ?_
                      refine lv_istore (lv' := [(7, .int 0), (6, .int (nI i)), (5, .int 0), (4, .int 0), (3, .int 27), (0, .ref mo), (1, .int 4), (2, .int what)]) hx hb dX7_best_123 hl479 (by decide) rfl (fun ls480 hl481 => ?_)
                      clear hl479
                      refine lv_aload_n hx hb dX7_best_125 rfl (lv_at hl481 5 rfl) ?_
                      refine zz_cv (WC := [(mo, .inr (7, [.ref ms, .ref mi, .ref ma, .int 0, .ref mts, .ref mtz, .ref mtn, .ref mh, .ref mhn, .ref mhw, .ref mhz, .ref mhr, .ref mcl, .ref mtp, .int 0, .int 0, .int 0, .int 0, .int 0, .int 0, .int 0, .int 0, .int 0, .int 0, .int 0, .ref mna, .ref mpi, .ref mca, .ref mwa, .int 0, .ref mrd])), (ms, .inl (kms, 3047, .inl vf)), (mcl, .inl (kcl, 47, .inl c9496))]) (TC := [(kms, .int), (kcl, .int)]) (WR := []) (TR := []) (k := 0) (n := 0) Z477 [0, 1, 2] [] [0, 1] [] rfl rfl (by decide +kernel) (by decide +kernel) (by decide +kernel) rfl rfl (fun Zc => va_runV (As := []) (rest := []) X (c7_laysBack l D mo ms mi ma mts mtz mtn mh mhn mhw mhz mhr mcl mtp mna mpi mca mwa mrd 0 0 0 0 0 0 0 0 0 0 0 0 0 kms vf kcl c9496 H474.size) (cwV 0 hts gX7_best_X7_laysBack rfl rfl rfl ⟨rfl, zh_X7_laysBack⟩ ⟨Nat.le_of_ble_eq_true rfl, Nat.le_of_ble_eq_true rfl⟩) (zz_pV (ci := 7) Zc 0 rfl rfl) rfl rfl hl481.1 rfl (lv_room (Nat.le_of_ble_eq_true rfl)) dX7_best_126 ⟨Nat.le_of_ble_eq_true rfl, Nat.le_of_ble_eq_true rfl⟩) rfl rfl (fun u574 H482 locs483 hw575 Z484 => ?_)
                      clear Z477
                      obtain ⟨f9577, rfl⟩ : ∃ z, z = u574 := ⟨_, rfl⟩
                      try dsimp only at hw575 Z484
                      have Z485 : zz_S D A s [(mo, .inr (7, [.ref ms, .ref mi, .ref ma, .int 0, .ref mts, .ref mtz, .ref mtn, .ref mh, .ref mhn, .ref mhw, .ref mhz, .ref mhr, .ref mcl, .ref mtp, .int 0, .int 0, .int 0, .int 0, .int 0, .int 0, .int 0, .int 0, .int 0, .int 0, .int 0, .ref mna, .ref mpi, .ref mca, .ref mwa, .int 0, .ref mrd])), (ms, .inl (kms, 3047, .inl f9577)), (mcl, .inl (kcl, 47, .inl c9496))] [(kms, .int), (kcl, .int)] H482 locs483 := Z484
                      clear Z484
                      have p578 : f9577 0 = 0 := (hw575 0 (by decide)).trans ((hw494 0 (by decide)).trans af_0)
                      have p579 : f9577 1 = 0 := (hw575 1 (by decide)).trans ((hw494 1 (by decide)).trans af_1)
                      have p580 : f9577 2 = 0 := (hw575 2 (by decide)).trans ((hw494 2 (by decide)).trans af_2)
                      have p581 : f9577 3 = 0 := (hw575 3 (by decide)).trans ((hw494 3 (by decide)).trans af_3)
                      have p582 : f9577 4 = 0 := (hw575 4 (by decide)).trans ((hw494 4 (by decide)).trans af_4)
                      have p583 : f9577 5 = 0 := (hw575 5 (by decide)).trans ((hw494 5 (by decide)).trans af_5)
                      have p584 : f9577 6 = 1 := (hw575 6 (by decide)).trans ((hw494 6 (by decide)).trans af_6)
                      have p585 : f9577 7 = 0 := (hw575 7 (by decide)).trans ((hw494 7 (by decide)).trans af_7)
                      have p586 : f9577 8 = 3 := (hw575 8 (by decide)).trans ((hw494 8 (by decide)).trans af_8)
                      have p587 : f9577 9 = 10 := (hw575 9 (by decide)).trans ((hw494 9 (by decide)).trans af_9)
                      have p588 : f9577 10 = 0 := (hw575 10 (by decide)).trans ((hw494 10 (by decide)).trans af_10)
                      refine lv_iload hx hb dX7_best_129 (lv_at hl481 3 rfl) ?_
                      refine lv_if_lt (tgt := 141) hx hb dX7_best_131 (by decide) (fun h => absurd h (by decide)) (fun _ => ?_)
                      refine lv_iload hx hb dX7_best_134 (lv_at hl481 0 rfl) ?_
                      refine lv_iload hx hb dX7_best_136 (lv_at hl481 2 rfl) ?_
                      refine lv_icmp_ge (tgt := 149) hx hb dX7_best_138 (by decide) (fun _ => ?_) (fun h => absurd (by decide) h)
                      refine lv_iinc (v := nI (i + 1)) (lv' := [(6, .int (nI (i + 1))), (7, .int 0), (5, .int 0), (4, .int 0), (3, .int 27), (0, .ref mo), (1, .int 4), (2, .int what)]) hx hb dX7_best_149 hl481 (k := 1) rfl (nI_1 i) (by decide) rfl (fun ls486 hl487 => ?_)
                      clear hl481
                      refine lv_goto (tgt := 59) hx hb dX7_best_152 (by decide) ?_
                      exact ih (i + 1) f9577 0 (by omega) ⟨p578, p579, p580, p581, p582, p583, p584, p585, p586, p587, p588, (Or.inr ⟨by omega, rfl⟩)⟩ _ _ _ Z485 (lv_sub hl487 [0, 2, 3, 4, 5, 6, 7] rfl)
                  | succ t iht =>
                      intro ht vf v2 v5 v6 v7 hin H488 locs489 ls490 Z491 hl492
                      have hl493 : lv_has ls490 9 [(7, .int (nI (zz_pw (t + 1)))), (6, .int (nI i)), (5, .int 0), (4, .int 0), (3, .int 27), (0, .ref mo), (1, .int 4), (2, .int what)] := hl492
                      clear hl492
                      refine lv_iload hx hb dX7_best_70 (lv_at hl493 0 rfl) ?_
                      refine lv_if_le (tgt := 117) hx hb dX7_best_72 (by decide) (fun h => absurd h (nI_nle (zz_pwP t (by omega)).1 (zz_pwP t (by omega)).2)) (fun _ => ?_)
                      refine lv_iload hx hb dX7_best_75 (lv_at hl493 1 rfl) ?_
                      refine lv_iload hx hb dX7_best_77 (lv_at hl493 0 rfl) ?_
                      refine lv_idiv hx hb dX7_best_79 (nI_ne0 (zz_pwP t (by omega)).1 (zz_pwP t (by omega)).2) ?_
                      refine lv_iconst (v := 3) hx hb dX7_best_80 (by decide) ?_
                      refine lv_irem hx hb dX7_best_81 (by decide) ?_
                      refine lv_topi (fun y589 ey590 => ?_)
                      refine lv_istore (lv' := [(8, .int y589), (7, .int (nI (zz_pw (t + 1)))), (6, .int (nI i)), (5, .int 0), (4, .int 0), (3, .int 27), (0, .ref mo), (1, .int 4), (2, .int what)]) hx hb dX7_best_82 hl493 (by decide) rfl (fun ls494 hl495 => ?_)
                      clear hl493
                      refine lv_aload_n hx hb dX7_best_84 rfl (lv_at hl495 6 rfl) ?_
                      refine lv_iload hx hb dX7_best_85 (lv_at hl495 0 rfl) ?_
                      refine lv_if_ne (tgt := 94) hx hb dX7_best_87 (by decide) (fun b591 => ?_) (fun b591 => ?_)
                      · refine lv_iload hx hb dX7_best_94 (lv_at hl495 0 rfl) ?_
                        refine lv_iconst (v := 1) hx hb dX7_best_96 (by decide) ?_
                        refine lv_icmp_ne (tgt := 104) hx hb dX7_best_97 (by decide) (fun b592 => ?_) (fun b592 => ?_)
                        · refine lv_iconst (v := 1) hx hb dX7_best_104 (by decide) ?_
                          refine zz_cv (WC := [(mo, .inr (7, [.ref ms, .ref mi, .ref ma, .int 0, .ref mts, .ref mtz, .ref mtn, .ref mh, .ref mhn, .ref mhw, .ref mhz, .ref mhr, .ref mcl, .ref mtp, .int 0, .int 0, .int 0, .int 0, .int 0, .int 0, .int 0, .int 0, .int 0, .int 0, .int 0, .ref mna, .ref mpi, .ref mca, .ref mwa, .int 0, .ref mrd])), (ms, .inl (kms, 3047, .inl vf))]) (TC := [(kms, .int)]) (WR := [(mcl, .inl (kcl, 47, .inl c9496))]) (TR := [(kcl, .int)]) (k := 0) (n := 0) Z491 [0, 1] [2] [0] [1] rfl rfl (by decide +kernel) (by decide +kernel) (by decide +kernel) rfl rfl (fun Zc => va_runV (As := [.int 1]) (rest := []) X (c7_goesOnBy l D mo ms mi ma mts mtz mtn mh mhn mhw mhz mhr mcl mtp mna mpi mca mwa mrd 0 0 0 0 0 0 0 0 0 0 0 0 0 kms vf 0 v2 0 0 v5 v6 v7 3 10 0 1 hin.1 hin.2.1 hin.2.2.1 hin.2.2.2.1 hin.2.2.2.2.1 hin.2.2.2.2.2.1 hin.2.2.2.2.2.2.1 hin.2.2.2.2.2.2.2.1 hin.2.2.2.2.2.2.2.2.1 hin.2.2.2.2.2.2.2.2.2.1 hin.2.2.2.2.2.2.2.2.2.2 H488.size) (cwV 1 hts gX7_best_X7_goesOnBy rfl rfl rfl ⟨rfl, zh_X7_goesOnBy⟩ ⟨Nat.le_of_ble_eq_true rfl, Nat.le_of_ble_eq_true rfl⟩) (zz_pV (ci := 7) Zc 0 rfl rfl) rfl rfl hl495.1 rfl (lv_room (Nat.le_of_ble_eq_true rfl)) dX7_best_105 ⟨Nat.le_of_ble_eq_true rfl, Nat.le_of_ble_eq_true rfl⟩) rfl rfl (fun u593 H496 locs497 hw594 Z498 => ?_)
                          clear Z491
                          obtain ⟨f9596, F9597, T9598, Z9599⟩ := u593
                          try dsimp only at hw594 Z498
                          obtain ⟨⟨p600, p601, p602, p603, p604, p605, p606, p607, p608, p609, p610⟩, hx611⟩ := hw594
                          obtain ⟨rfl, rfl, rfl⟩ := hx611
                          have Z499 : zz_S D A s [(mcl, .inl (kcl, 47, .inl c9496)), (mo, .inr (7, [.ref ms, .ref mi, .ref ma, .int 0, .ref mts, .ref mtz, .ref mtn, .ref mh, .ref mhn, .ref mhw, .ref mhz, .ref mhr, .ref mcl, .ref mtp, .int 0, .int 0, .int 0, .int 0, .int 0, .int 0, .int 0, .int 0, .int 0, .int 0, .int 0, .ref mna, .ref mpi, .ref mca, .ref mwa, .int 0, .ref mrd])), (ms, .inl (kms, 3047, .inl f9596))] [(kcl, .int), (kms, .int)] H496 locs497 := Z498
                          clear Z498
                          refine lv_iload hx hb dX7_best_108 (lv_at hl495 1 rfl) ?_
                          refine lv_iconst (v := 3) hx hb dX7_best_110 (by decide) ?_
                          refine lv_idiv hx hb dX7_best_111 (by decide) ?_
                          refine zz_v (v := nI (zz_pw t)) (zz_pw3 t (by omega)) ?_
                          refine lv_istore (lv' := [(7, .int (nI (zz_pw t))), (8, .int y589), (6, .int (nI i)), (5, .int 0), (4, .int 0), (3, .int 27), (0, .ref mo), (1, .int 4), (2, .int what)]) hx hb dX7_best_112 hl495 (by decide) rfl (fun ls500 hl501 => ?_)
                          clear hl495
                          refine lv_goto (tgt := 70) hx hb dX7_best_114 (by decide) ?_
                          have Z502 := Z499.sub (WS' := [(mo, .inr (7, [.ref ms, .ref mi, .ref ma, .int 0, .ref mts, .ref mtz, .ref mtn, .ref mh, .ref mhn, .ref mhw, .ref mhz, .ref mhr, .ref mcl, .ref mtp, .int 0, .int 0, .int 0, .int 0, .int 0, .int 0, .int 0, .int 0, .int 0, .int 0, .int 0, .ref mna, .ref mpi, .ref mca, .ref mwa, .int 0, .ref mrd])), (ms, .inl (kms, 3047, .inl f9596)), (mcl, .inl (kcl, 47, .inl c9496))]) (TYS' := [(kms, .int), (kcl, .int)]) [1, 2, 0] [1, 0] (by decide +kernel) rfl rfl
                          clear Z499
                          exact iht (by omega) f9596 (v2 + 1) (zz_bT v5 v6 10) (zz_bZ v6 10) (zz_mF v7 1 v6 3 10) ⟨p600, p601, p602, p603, p604, p605, p606, p607, p608, p609, p610⟩ _ _ _ Z502 (lv_sub hl501 [0, 2, 3, 4, 5, 6, 7, 8] rfl)
                        · refine lv_iconst (v := (-1)) hx hb dX7_best_100 (by decide) ?_
                          refine lv_goto (tgt := 105) hx hb dX7_best_101 (by decide) ?_
                          refine zz_cv (WC := [(mo, .inr (7, [.ref ms, .ref mi, .ref ma, .int 0, .ref mts, .ref mtz, .ref mtn, .ref mh, .ref mhn, .ref mhw, .ref mhz, .ref mhr, .ref mcl, .ref mtp, .int 0, .int 0, .int 0, .int 0, .int 0, .int 0, .int 0, .int 0, .int 0, .int 0, .int 0, .ref mna, .ref mpi, .ref mca, .ref mwa, .int 0, .ref mrd])), (ms, .inl (kms, 3047, .inl vf))]) (TC := [(kms, .int)]) (WR := [(mcl, .inl (kcl, 47, .inl c9496))]) (TR := [(kcl, .int)]) (k := 0) (n := 0) Z491 [0, 1] [2] [0] [1] rfl rfl (by decide +kernel) (by decide +kernel) (by decide +kernel) rfl rfl (fun Zc => va_runV (As := [.int (-1)]) (rest := []) X (c7_goesOnBy l D mo ms mi ma mts mtz mtn mh mhn mhw mhz mhr mcl mtp mna mpi mca mwa mrd 0 0 0 0 0 0 0 0 0 0 0 0 0 kms vf 0 v2 0 0 v5 v6 v7 3 10 0 (-1) hin.1 hin.2.1 hin.2.2.1 hin.2.2.2.1 hin.2.2.2.2.1 hin.2.2.2.2.2.1 hin.2.2.2.2.2.2.1 hin.2.2.2.2.2.2.2.1 hin.2.2.2.2.2.2.2.2.1 hin.2.2.2.2.2.2.2.2.2.1 hin.2.2.2.2.2.2.2.2.2.2 H488.size) (cwV 1 hts gX7_best_X7_goesOnBy rfl rfl rfl ⟨rfl, zh_X7_goesOnBy⟩ ⟨Nat.le_of_ble_eq_true rfl, Nat.le_of_ble_eq_true rfl⟩) (zz_pV (ci := 7) Zc 0 rfl rfl) rfl rfl hl495.1 rfl (lv_room (Nat.le_of_ble_eq_true rfl)) dX7_best_105 ⟨Nat.le_of_ble_eq_true rfl, Nat.le_of_ble_eq_true rfl⟩) rfl rfl (fun u612 H503 locs504 hw613 Z505 => ?_)
                          clear Z491
                          obtain ⟨f9615, F9616, T9617, Z9618⟩ := u612
                          try dsimp only at hw613 Z505
                          obtain ⟨⟨p619, p620, p621, p622, p623, p624, p625, p626, p627, p628, p629⟩, hx630⟩ := hw613
                          obtain ⟨rfl, rfl, rfl⟩ := hx630
                          have Z506 : zz_S D A s [(mcl, .inl (kcl, 47, .inl c9496)), (mo, .inr (7, [.ref ms, .ref mi, .ref ma, .int 0, .ref mts, .ref mtz, .ref mtn, .ref mh, .ref mhn, .ref mhw, .ref mhz, .ref mhr, .ref mcl, .ref mtp, .int 0, .int 0, .int 0, .int 0, .int 0, .int 0, .int 0, .int 0, .int 0, .int 0, .int 0, .ref mna, .ref mpi, .ref mca, .ref mwa, .int 0, .ref mrd])), (ms, .inl (kms, 3047, .inl f9615))] [(kcl, .int), (kms, .int)] H503 locs504 := Z505
                          clear Z505
                          refine lv_iload hx hb dX7_best_108 (lv_at hl495 1 rfl) ?_
                          refine lv_iconst (v := 3) hx hb dX7_best_110 (by decide) ?_
                          refine lv_idiv hx hb dX7_best_111 (by decide) ?_
                          refine zz_v (v := nI (zz_pw t)) (zz_pw3 t (by omega)) ?_
                          refine lv_istore (lv' := [(7, .int (nI (zz_pw t))), (8, .int y589), (6, .int (nI i)), (5, .int 0), (4, .int 0), (3, .int 27), (0, .ref mo), (1, .int 4), (2, .int what)]) hx hb dX7_best_112 hl495 (by decide) rfl (fun ls507 hl508 => ?_)
                          clear hl495
                          refine lv_goto (tgt := 70) hx hb dX7_best_114 (by decide) ?_
                          have Z509 := Z506.sub (WS' := [(mo, .inr (7, [.ref ms, .ref mi, .ref ma, .int 0, .ref mts, .ref mtz, .ref mtn, .ref mh, .ref mhn, .ref mhw, .ref mhz, .ref mhr, .ref mcl, .ref mtp, .int 0, .int 0, .int 0, .int 0, .int 0, .int 0, .int 0, .int 0, .int 0, .int 0, .int 0, .ref mna, .ref mpi, .ref mca, .ref mwa, .int 0, .ref mrd])), (ms, .inl (kms, 3047, .inl f9615)), (mcl, .inl (kcl, 47, .inl c9496))]) (TYS' := [(kms, .int), (kcl, .int)]) [1, 2, 0] [1, 0] (by decide +kernel) rfl rfl
                          clear Z506
                          exact iht (by omega) f9615 (v2 + 1) (zz_bT v5 v6 10) (zz_bZ v6 10) (zz_mF v7 (-1) v6 3 10) ⟨p619, p620, p621, p622, p623, p624, p625, p626, p627, p628, p629⟩ _ _ _ Z509 (lv_sub hl508 [0, 2, 3, 4, 5, 6, 7, 8] rfl)
                      · refine lv_iconst (v := 0) hx hb dX7_best_90 (by decide) ?_
                        refine lv_goto (tgt := 105) hx hb dX7_best_91 (by decide) ?_
                        refine zz_cv (WC := [(mo, .inr (7, [.ref ms, .ref mi, .ref ma, .int 0, .ref mts, .ref mtz, .ref mtn, .ref mh, .ref mhn, .ref mhw, .ref mhz, .ref mhr, .ref mcl, .ref mtp, .int 0, .int 0, .int 0, .int 0, .int 0, .int 0, .int 0, .int 0, .int 0, .int 0, .int 0, .ref mna, .ref mpi, .ref mca, .ref mwa, .int 0, .ref mrd])), (ms, .inl (kms, 3047, .inl vf))]) (TC := [(kms, .int)]) (WR := [(mcl, .inl (kcl, 47, .inl c9496))]) (TR := [(kcl, .int)]) (k := 0) (n := 0) Z491 [0, 1] [2] [0] [1] rfl rfl (by decide +kernel) (by decide +kernel) (by decide +kernel) rfl rfl (fun Zc => va_runV (As := [.int 0]) (rest := []) X (c7_goesOnBy l D mo ms mi ma mts mtz mtn mh mhn mhw mhz mhr mcl mtp mna mpi mca mwa mrd 0 0 0 0 0 0 0 0 0 0 0 0 0 kms vf 0 v2 0 0 v5 v6 v7 3 10 0 0 hin.1 hin.2.1 hin.2.2.1 hin.2.2.2.1 hin.2.2.2.2.1 hin.2.2.2.2.2.1 hin.2.2.2.2.2.2.1 hin.2.2.2.2.2.2.2.1 hin.2.2.2.2.2.2.2.2.1 hin.2.2.2.2.2.2.2.2.2.1 hin.2.2.2.2.2.2.2.2.2.2 H488.size) (cwV 1 hts gX7_best_X7_goesOnBy rfl rfl rfl ⟨rfl, zh_X7_goesOnBy⟩ ⟨Nat.le_of_ble_eq_true rfl, Nat.le_of_ble_eq_true rfl⟩) (zz_pV (ci := 7) Zc 0 rfl rfl) rfl rfl hl495.1 rfl (lv_room (Nat.le_of_ble_eq_true rfl)) dX7_best_105 ⟨Nat.le_of_ble_eq_true rfl, Nat.le_of_ble_eq_true rfl⟩) rfl rfl (fun u631 H510 locs511 hw632 Z512 => ?_)
                        clear Z491
                        obtain ⟨f9634, F9635, T9636, Z9637⟩ := u631
                        try dsimp only at hw632 Z512
                        obtain ⟨⟨p638, p639, p640, p641, p642, p643, p644, p645, p646, p647, p648⟩, hx649⟩ := hw632
                        obtain ⟨rfl, rfl, rfl⟩ := hx649
                        have Z513 : zz_S D A s [(mcl, .inl (kcl, 47, .inl c9496)), (mo, .inr (7, [.ref ms, .ref mi, .ref ma, .int 0, .ref mts, .ref mtz, .ref mtn, .ref mh, .ref mhn, .ref mhw, .ref mhz, .ref mhr, .ref mcl, .ref mtp, .int 0, .int 0, .int 0, .int 0, .int 0, .int 0, .int 0, .int 0, .int 0, .int 0, .int 0, .ref mna, .ref mpi, .ref mca, .ref mwa, .int 0, .ref mrd])), (ms, .inl (kms, 3047, .inl f9634))] [(kcl, .int), (kms, .int)] H510 locs511 := Z512
                        clear Z512
                        refine lv_iload hx hb dX7_best_108 (lv_at hl495 1 rfl) ?_
                        refine lv_iconst (v := 3) hx hb dX7_best_110 (by decide) ?_
                        refine lv_idiv hx hb dX7_best_111 (by decide) ?_
                        refine zz_v (v := nI (zz_pw t)) (zz_pw3 t (by omega)) ?_
                        refine lv_istore (lv' := [(7, .int (nI (zz_pw t))), (8, .int y589), (6, .int (nI i)), (5, .int 0), (4, .int 0), (3, .int 27), (0, .ref mo), (1, .int 4), (2, .int what)]) hx hb dX7_best_112 hl495 (by decide) rfl (fun ls514 hl515 => ?_)
                        clear hl495
                        refine lv_goto (tgt := 70) hx hb dX7_best_114 (by decide) ?_
                        have Z516 := Z513.sub (WS' := [(mo, .inr (7, [.ref ms, .ref mi, .ref ma, .int 0, .ref mts, .ref mtz, .ref mtn, .ref mh, .ref mhn, .ref mhw, .ref mhz, .ref mhr, .ref mcl, .ref mtp, .int 0, .int 0, .int 0, .int 0, .int 0, .int 0, .int 0, .int 0, .int 0, .int 0, .int 0, .ref mna, .ref mpi, .ref mca, .ref mwa, .int 0, .ref mrd])), (ms, .inl (kms, 3047, .inl f9634)), (mcl, .inl (kcl, 47, .inl c9496))]) (TYS' := [(kms, .int), (kcl, .int)]) [1, 2, 0] [1, 0] (by decide +kernel) rfl rfl
                        clear Z513
                        exact iht (by omega) f9634 (v2 + 1) (zz_bT v5 v6 10) (zz_bZ v6 10) (zz_mF v7 0 v6 3 10) ⟨p638, p639, p640, p641, p642, p643, p644, p645, p646, p647, p648⟩ _ _ _ Z516 (lv_sub hl515 [0, 2, 3, 4, 5, 6, 7, 8] rfl)
                exact inner 4 (by decide) vf 0 0 1 0 ⟨hinv.1, hinv.2.1, hinv.2.2.1, hinv.2.2.2.1, hinv.2.2.2.2.1, hinv.2.2.2.2.2.1, hinv.2.2.2.2.2.2.1, hinv.2.2.2.2.2.2.2.1, hinv.2.2.2.2.2.2.2.2.1, hinv.2.2.2.2.2.2.2.2.2.1, hinv.2.2.2.2.2.2.2.2.2.2.1⟩ _ _ _ Z421 hl473
        exact loop 81 0 f (-1) (by omega) ⟨af_0, af_1, af_2, af_3, af_4, af_5, af_6, af_7, af_8, af_9, af_10, (Or.inl ⟨rfl, rfl⟩)⟩ _ _ _ Z406 hl412
      · refine zz_v (v := 0) (zz_wiF w492) ?_
        refine lv_if_ne (tgt := 25) hx hb dX7_best_19 (by decide) (fun h => absurd (by decide) h) (fun _ => ?_)
        refine lv_ldc (v := (-1000000001)) hx hb hown (hts _ (zz_m 2 rfl)) dX7_best_22 ?_
        exact zz_iret X hr hlk Z386 () (by simp [sp_best, w492]) [] [] (by decide +kernel) rfl rfl dX7_best_24
    · have e5 : n = 5 := e5
      subst e5
      refine zz_v (v := 1) (by decide) ?_
      refine lv_if_eq (tgt := 22) hx hb dX7_best_9 (by decide) (fun h => absurd h (by decide)) (fun _ => ?_)
      refine lv_iload_n hx hb dX7_best_12 rfl (lv_at hl 2 rfl) ?_
      refine lv_i2l (v := Int32.toInt64 what) hx hb dX7_best_13 rfl ?_
      refine lv_lconst (v := 0) hx hb dX7_best_14 (by decide) ?_
      refine zz_vl (v := Int32.toInt64 0) (by decide) ?_
      refine lv_lconst (v := 1) hx hb dX7_best_15 (by decide) ?_
      refine zz_vl (v := Int32.toInt64 1) (by decide) ?_
      refine zz_ci (WC := []) (TC := []) (WR := [(mo, .inr (7, [.ref ms, .ref mi, .ref ma, .int 0, .ref mts, .ref mtz, .ref mtn, .ref mh, .ref mhn, .ref mhw, .ref mhz, .ref mhr, .ref mcl, .ref mtp, .int 0, .int 0, .int 0, .int 0, .int 0, .int 0, .int 0, .int 0, .int 0, .int 0, .int 0, .ref mna, .ref mpi, .ref mca, .ref mwa, .int 0, .ref mrd])), (ms, .inl (kms, 3047, .inl f)), (mcl, .inl (kcl, 47, .inl cf))]) (TR := [(kms, .int), (kcl, .int)]) (k := 0) (n := 0) Z4 [] [0, 1, 2] [] [0, 1] rfl rfl (by decide +kernel) (by decide +kernel) (by decide +kernel) rfl rfl (fun Zc => va_runS (As := [.long (Int32.toInt64 what), .long (Int32.toInt64 0), .long (Int32.toInt64 1)]) (rest := []) X (c_isIn l D what 0 1 H1.size) (va_cwS 3 hts gX7_best_X7_isIn rfl rfl rfl zh_X7_isIn ⟨Nat.le_of_ble_eq_true rfl, Nat.le_of_ble_eq_true rfl⟩) (zz_pS Zc) rfl rfl hl.1 rfl (lv_room (Nat.le_of_ble_eq_true rfl)) dX7_best_16 ⟨Nat.le_of_ble_eq_true rfl, Nat.le_of_ble_eq_true rfl⟩) rfl rfl (fun r652 u650 H517 locs518 hw651 Z519 => ?_)
      clear Z4
      subst r652
      have Z520 : zz_S D A s [(mo, .inr (7, [.ref ms, .ref mi, .ref ma, .int 0, .ref mts, .ref mtz, .ref mtn, .ref mh, .ref mhn, .ref mhw, .ref mhz, .ref mhr, .ref mcl, .ref mtp, .int 0, .int 0, .int 0, .int 0, .int 0, .int 0, .int 0, .int 0, .int 0, .int 0, .int 0, .ref mna, .ref mpi, .ref mca, .ref mwa, .int 0, .ref mrd])), (ms, .inl (kms, 3047, .inl f)), (mcl, .inl (kcl, 47, .inl cf))] [(kms, .int), (kcl, .int)] H517 locs518 := Z519
      clear Z519
      by_cases w653 : 0 ≤ what ∧ what ≤ 1
      · refine zz_v (v := 1) (zz_wiT w653) ?_
        refine lv_if_ne (tgt := 25) hx hb dX7_best_19 (by decide) (fun _ => ?_) (fun h => absurd h (by decide))
        refine lv_iconst (v := 1) hx hb dX7_best_25 (by decide) ?_
        refine lv_istore_n (lv' := [(3, .int 1), (0, .ref mo), (1, .int 5), (2, .int what)]) hx hb dX7_best_26 rfl hl (by decide) rfl (fun ls521 hl522 => ?_)
        clear hl
        refine lv_iconst (v := 1) hx hb dX7_best_27 (by decide) ?_
        refine lv_istore (lv' := [(4, .int 1), (3, .int 1), (0, .ref mo), (1, .int 5), (2, .int what)]) hx hb dX7_best_28 hl522 (by decide) rfl (fun ls523 hl524 => ?_)
        clear hl522
        refine lv_iload hx hb dX7_best_30 (lv_at hl524 0 rfl) ?_
        refine lv_iload_n hx hb dX7_best_32 rfl (lv_at hl524 3 rfl) ?_
        refine lv_icmp_ge (tgt := 46) hx hb dX7_best_33 (by decide) (fun h => absurd h (by decide)) (fun _ => ?_)
        refine lv_iload_n hx hb dX7_best_36 rfl (lv_at hl524 1 rfl) ?_
        refine lv_iconst (v := 3) hx hb dX7_best_37 (by decide) ?_
        refine lv_imul hx hb dX7_best_38 ?_
        refine zz_v (v := 3) (by decide) ?_
        refine lv_istore_n (lv' := [(3, .int 3), (4, .int 1), (0, .ref mo), (1, .int 5), (2, .int what)]) hx hb dX7_best_39 rfl hl524 (by decide) rfl (fun ls525 hl526 => ?_)
        clear hl524
        refine lv_iinc (v := 2) (lv' := [(4, .int 2), (3, .int 3), (0, .ref mo), (1, .int 5), (2, .int what)]) hx hb dX7_best_40 hl526 (k := 1) rfl (by decide) (by decide) rfl (fun ls527 hl528 => ?_)
        clear hl526
        refine lv_goto (tgt := 30) hx hb dX7_best_43 (by decide) ?_
        refine lv_iload hx hb dX7_best_30 (lv_at hl528 0 rfl) ?_
        refine lv_iload_n hx hb dX7_best_32 rfl (lv_at hl528 3 rfl) ?_
        refine lv_icmp_ge (tgt := 46) hx hb dX7_best_33 (by decide) (fun h => absurd h (by decide)) (fun _ => ?_)
        refine lv_iload_n hx hb dX7_best_36 rfl (lv_at hl528 1 rfl) ?_
        refine lv_iconst (v := 3) hx hb dX7_best_37 (by decide) ?_
        refine lv_imul hx hb dX7_best_38 ?_
        refine zz_v (v := 9) (by decide) ?_
        refine lv_istore_n (lv' := [(3, .int 9), (4, .int 2), (0, .ref mo), (1, .int 5), (2, .int what)]) hx hb dX7_best_39 rfl hl528 (by decide) rfl (fun ls529 hl530 => ?_)
        clear hl528
        refine lv_iinc (v := 3) (lv' := [(4, .int 3), (3, .int 9), (0, .ref mo), (1, .int 5), (2, .int what)]) hx hb dX7_best_40 hl530 (k := 1) rfl (by decide) (by decide) rfl (fun ls531 hl532 => ?_)
        clear hl530
        refine lv_goto (tgt := 30) hx hb dX7_best_43 (by decide) ?_
        refine lv_iload hx hb dX7_best_30 (lv_at hl532 0 rfl) ?_
        refine lv_iload_n hx hb dX7_best_32 rfl (lv_at hl532 3 rfl) ?_
        refine lv_icmp_ge (tgt := 46) hx hb dX7_best_33 (by decide) (fun h => absurd h (by decide)) (fun _ => ?_)
        refine lv_iload_n hx hb dX7_best_36 rfl (lv_at hl532 1 rfl) ?_
        refine lv_iconst (v := 3) hx hb dX7_best_37 (by decide) ?_
        refine lv_imul hx hb dX7_best_38 ?_
        refine zz_v (v := 27) (by decide) ?_
        refine lv_istore_n (lv' := [(3, .int 27), (4, .int 3), (0, .ref mo), (1, .int 5), (2, .int what)]) hx hb dX7_best_39 rfl hl532 (by decide) rfl (fun ls533 hl534 => ?_)
        clear hl532
        refine lv_iinc (v := 4) (lv' := [(4, .int 4), (3, .int 27), (0, .ref mo), (1, .int 5), (2, .int what)]) hx hb dX7_best_40 hl534 (k := 1) rfl (by decide) (by decide) rfl (fun ls535 hl536 => ?_)
        clear hl534
        refine lv_goto (tgt := 30) hx hb dX7_best_43 (by decide) ?_
        refine lv_iload hx hb dX7_best_30 (lv_at hl536 0 rfl) ?_
        refine lv_iload_n hx hb dX7_best_32 rfl (lv_at hl536 3 rfl) ?_
        refine lv_icmp_ge (tgt := 46) hx hb dX7_best_33 (by decide) (fun h => absurd h (by decide)) (fun _ => ?_)
        refine lv_iload_n hx hb dX7_best_36 rfl (lv_at hl536 1 rfl) ?_
        refine lv_iconst (v := 3) hx hb dX7_best_37 (by decide) ?_
        refine lv_imul hx hb dX7_best_38 ?_
        refine zz_v (v := 81) (by decide) ?_
        refine lv_istore_n (lv' := [(3, .int 81), (4, .int 4), (0, .ref mo), (1, .int 5), (2, .int what)]) hx hb dX7_best_39 rfl hl536 (by decide) rfl (fun ls537 hl538 => ?_)
        clear hl536
        refine lv_iinc (v := 5) (lv' := [(4, .int 5), (3, .int 81), (0, .ref mo), (1, .int 5), (2, .int what)]) hx hb dX7_best_40 hl538 (k := 1) rfl (by decide) (by decide) rfl (fun ls539 hl540 => ?_)
        clear hl538
        refine lv_goto (tgt := 30) hx hb dX7_best_43 (by decide) ?_
        refine lv_iload hx hb dX7_best_30 (lv_at hl540 0 rfl) ?_
        refine lv_iload_n hx hb dX7_best_32 rfl (lv_at hl540 3 rfl) ?_
        refine lv_icmp_ge (tgt := 46) hx hb dX7_best_33 (by decide) (fun _ => ?_) (fun h => absurd (by decide) h)
        refine lv_aload_n hx hb dX7_best_46 rfl (lv_at hl540 2 rfl) ?_
        refine zz_cv (WC := [(mo, .inr (7, [.ref ms, .ref mi, .ref ma, .int 0, .ref mts, .ref mtz, .ref mtn, .ref mh, .ref mhn, .ref mhw, .ref mhz, .ref mhr, .ref mcl, .ref mtp, .int 0, .int 0, .int 0, .int 0, .int 0, .int 0, .int 0, .int 0, .int 0, .int 0, .int 0, .ref mna, .ref mpi, .ref mca, .ref mwa, .int 0, .ref mrd])), (ms, .inl (kms, 3047, .inl f)), (mcl, .inl (kcl, 47, .inl cf))]) (TC := [(kms, .int), (kcl, .int)]) (WR := []) (TR := []) (k := 0) (n := 0) Z520 [0, 1, 2] [] [0, 1] [] rfl rfl (by decide +kernel) (by decide +kernel) (by decide +kernel) rfl rfl (fun Zc => va_runV (As := []) (rest := []) X (c7_laysBy l D mo ms mi ma mts mtz mtn mh mhn mhw mhz mhr mcl mtp mna mpi mca mwa mrd 0 0 0 0 0 0 0 0 0 0 0 0 0 kms f kcl cf H517.size) (cwV 0 hts gX7_best_X7_laysBy rfl rfl rfl ⟨rfl, zh_X7_laysBy⟩ ⟨Nat.le_of_ble_eq_true rfl, Nat.le_of_ble_eq_true rfl⟩) (zz_pV (ci := 7) Zc 0 rfl rfl) rfl rfl hl540.1 rfl (lv_room (Nat.le_of_ble_eq_true rfl)) dX7_best_47 ⟨Nat.le_of_ble_eq_true rfl, Nat.le_of_ble_eq_true rfl⟩) rfl rfl (fun u654 H541 locs542 hw655 Z543 => ?_)
        clear Z520
        obtain ⟨c9657, rfl⟩ : ∃ z, z = u654 := ⟨_, rfl⟩
        try dsimp only at hw655 Z543
        have Z544 : zz_S D A s [(mo, .inr (7, [.ref ms, .ref mi, .ref ma, .int 0, .ref mts, .ref mtz, .ref mtn, .ref mh, .ref mhn, .ref mhw, .ref mhz, .ref mhr, .ref mcl, .ref mtp, .int 0, .int 0, .int 0, .int 0, .int 0, .int 0, .int 0, .int 0, .int 0, .int 0, .int 0, .ref mna, .ref mpi, .ref mca, .ref mwa, .int 0, .ref mrd])), (ms, .inl (kms, 3047, .inl f)), (mcl, .inl (kcl, 47, .inl c9657))] [(kms, .int), (kcl, .int)] H541 locs542 := Z543
        clear Z543
        refine lv_iconst (v := (-1)) hx hb dX7_best_50 (by decide) ?_
        refine lv_istore (lv' := [(4, .int (-1)), (3, .int 81), (0, .ref mo), (1, .int 5), (2, .int what)]) hx hb dX7_best_51 hl540 (by decide) rfl (fun ls545 hl546 => ?_)
        clear hl540
        refine lv_iconst (v := 0) hx hb dX7_best_53 (by decide) ?_
        refine lv_istore (lv' := [(5, .int 0), (4, .int (-1)), (3, .int 81), (0, .ref mo), (1, .int 5), (2, .int what)]) hx hb dX7_best_54 hl546 (by decide) rfl (fun ls547 hl548 => ?_)
        clear hl546
        refine lv_iconst (v := 0) hx hb dX7_best_56 (by decide) ?_
        refine lv_istore (lv' := [(6, .int 0), (5, .int 0), (4, .int (-1)), (3, .int 81), (0, .ref mo), (1, .int 5), (2, .int what)]) hx hb dX7_best_57 hl548 (by decide) rfl (fun ls549 hl550 => ?_)
        clear hl548
        have loop : ∀ (k i : Nat) (vf : Nat → Int32) (vb : Int32), i + k = 243 → (vf 0 = 0 ∧ vf 1 = 0 ∧ vf 2 = 0 ∧ vf 3 = 0 ∧ vf 4 = 0 ∧ vf 5 = 0 ∧ vf 6 = 1 ∧ vf 7 = 0 ∧ vf 8 = 3 ∧ vf 9 = 10 ∧ vf 10 = 0 ∧ ((i = 0 ∧ vb = -1) ∨ (0 < i ∧ vb = 0))) → ∀ (Hq : Heap) (Lq : List Loc) (lq : Array Slot), zz_S D A s [(mo, .inr (7, [.ref ms, .ref mi, .ref ma, .int 0, .ref mts, .ref mtz, .ref mtn, .ref mh, .ref mhn, .ref mhw, .ref mhz, .ref mhr, .ref mcl, .ref mtp, .int 0, .int 0, .int 0, .int 0, .int 0, .int 0, .int 0, .int 0, .int 0, .int 0, .int 0, .ref mna, .ref mpi, .ref mca, .ref mwa, .int 0, .ref mrd])), (ms, .inl (kms, 3047, .inl vf)), (mcl, .inl (kcl, 47, .inl c9657))] [(kms, .int), (kcl, .int)] Hq Lq → lv_has lq 9 [(6, .int (nI i)), (5, .int 0), (4, .int vb), (3, .int 81), (0, .ref mo), (1, .int 5), (2, .int what)] → W p l e (headSpec wsX7_best { frames := 3, cells := 0, slots := 0, locals := 64 }).room s m (List.toArray [.ref mo, .int 5, .int what]) below meth c Hq Lq 0 0 (MQ below (va_Qi (fun (r : Int32) (u : Unit) => r = sp_best 5 what) (fun u t => zz_B D A ((fun (u : Unit) => []) u) ((fun (u : Unit) => []) u) t) A) (List.toArray [.ref mo, .int 5, .int what]) s 0 0 A) (F0 m 59 lq []) := by
          intro k
          induction k with
          | zero =>
              intro i vf vb hik hinv H551 locs552 ls553 Z554 hl555
              rcases hinv.2.2.2.2.2.2.2.2.2.2.2 with ⟨h0, hv⟩ | ⟨h0, hv⟩
              · omega
              subst hv
              refine lv_iload hx hb dX7_best_59 (lv_at hl555 0 rfl) ?_
              refine lv_iconst (v := 3) hx hb dX7_best_61 (by decide) ?_
              refine lv_iload_n hx hb dX7_best_62 rfl (lv_at hl555 3 rfl) ?_
              refine lv_imul hx hb dX7_best_63 ?_
              refine zz_v (v := 243) (by decide) ?_
              refine lv_icmp_ge (tgt := 155) hx hb dX7_best_64 (by decide) (fun _ => ?_) (fun h => absurd (nI_le (a := 243) (b := i) (by omega) (by omega)) h)
              refine lv_iload_n hx hb dX7_best_155 rfl (lv_at hl555 6 rfl) ?_
              refine lv_if_ne (tgt := 164) hx hb dX7_best_156 (by decide) (fun b658 => ?_) (fun b658 => ?_)
              · refine lv_iload hx hb dX7_best_164 (lv_at hl555 1 rfl) ?_
                exact zz_iret X hr hlk Z554 () (by simp [sp_best, w653]) [] [] (by decide +kernel) rfl rfl dX7_best_166
              · refine lv_iload hx hb dX7_best_159 (lv_at hl555 2 rfl) ?_
                refine lv_goto (tgt := 166) hx hb dX7_best_161 (by decide) ?_
                exact zz_iret X hr hlk Z554 () (by simp [sp_best, w653]) [] [] (by decide +kernel) rfl rfl dX7_best_166
          | succ k ih =>
              intro i vf vb hik hinv H556 locs557 ls558 Z559 hl560
              rcases hinv.2.2.2.2.2.2.2.2.2.2.2 with ⟨h0, hv⟩ | ⟨h0, hv⟩
              · subst hv
                refine lv_iload hx hb dX7_best_59 (lv_at hl560 0 rfl) ?_
                refine lv_iconst (v := 3) hx hb dX7_best_61 (by decide) ?_
                refine lv_iload_n hx hb dX7_best_62 rfl (lv_at hl560 3 rfl) ?_
                refine lv_imul hx hb dX7_best_63 ?_
                refine zz_v (v := 243) (by decide) ?_
                refine lv_icmp_ge (tgt := 155) hx hb dX7_best_64 (by decide) (fun h => absurd h (nI_ge (a := i) (b := 243) (by omega) (by omega))) (fun _ => ?_)
                refine lv_iload_n hx hb dX7_best_67 rfl (lv_at hl560 3 rfl) ?_
                refine lv_istore (lv' := [(7, .int 81), (6, .int (nI i)), (5, .int 0), (4, .int (-1)), (3, .int 81), (0, .ref mo), (1, .int 5), (2, .int what)]) hx hb dX7_best_68 hl560 (by decide) rfl (fun ls561 hl562 => ?_)
                clear hl560
                have inner : ∀ (t : Nat), t ≤ 5 → ∀ (vf : Nat → Int32) (v2 v5 v6 v7 : Int32), vf 0 = 0 ∧ vf 1 = 0 ∧ vf 2 = v2 ∧ vf 3 = 0 ∧ vf 4 = 0 ∧ vf 5 = v5 ∧ vf 6 = v6 ∧ vf 7 = v7 ∧ vf 8 = 3 ∧ vf 9 = 10 ∧ vf 10 = 0 → ∀ (Hq : Heap) (Lq : List Loc) (lq : Array Slot), zz_S D A s [(mo, .inr (7, [.ref ms, .ref mi, .ref ma, .int 0, .ref mts, .ref mtz, .ref mtn, .ref mh, .ref mhn, .ref mhw, .ref mhz, .ref mhr, .ref mcl, .ref mtp, .int 0, .int 0, .int 0, .int 0, .int 0, .int 0, .int 0, .int 0, .int 0, .int 0, .int 0, .ref mna, .ref mpi, .ref mca, .ref mwa, .int 0, .ref mrd])), (ms, .inl (kms, 3047, .inl vf)), (mcl, .inl (kcl, 47, .inl c9657))] [(kms, .int), (kcl, .int)] Hq Lq → lv_has lq 9 [(7, .int (nI (zz_pw t))), (6, .int (nI i)), (5, .int 0), (4, .int (-1)), (3, .int 81), (0, .ref mo), (1, .int 5), (2, .int what)] → W p l e (headSpec wsX7_best { frames := 3, cells := 0, slots := 0, locals := 64 }).room s m (List.toArray [.ref mo, .int 5, .int what]) below meth c Hq Lq 0 0 (MQ below (va_Qi (fun (r : Int32) (u : Unit) => r = sp_best 5 what) (fun u t => zz_B D A ((fun (u : Unit) => []) u) ((fun (u : Unit) => []) u) t) A) (List.toArray [.ref mo, .int 5, .int what]) s 0 0 A) (F0 m 70 lq []) := by
                  intro t
                  induction t with
                  | zero =>
                      intro ht vf v2 v5 v6 v7 hin H563 locs564 ls565 Z566 hl567
                      have hl568 : lv_has ls565 9 [(7, .int 0), (6, .int (nI i)), (5, .int 0), (4, .int (-1)), (3, .int 81), (0, .ref mo), (1, .int 5), (2, .int what)] := hl567
                      clear hl567
                      refine lv_iload hx hb dX7_best_70 (lv_at hl568 0 rfl) ?_
                      refine lv_if_le (tgt := 117) hx hb dX7_best_72 (by decide) (fun _ => ?_) (fun h => absurd (by decide) h)
                      refine lv_aload_n hx hb dX7_best_117 rfl (lv_at hl568 5 rfl) ?_
                      refine zz_get X Z566 0 rfl rfl (fun w h => List.mem_cons_of_mem _ (List.mem_append_right _ h)) 0 rfl (zz_m 3 rfl) rfl dX7_best_118 ?_
                      refine lv_iconst (v := 4) hx hb dX7_best_121 (by decide) ?_
                      refine zz_ild X Z566 1 0 rfl rfl (zz_in 4 3047 rfl) dX7_best_122 ?_
                      refine zz_v (v := 0) hin.2.2.2.2.1 ?_
                      refine lv_istore (lv' := [(7, .int 0), (6, .int (nI i)), (5, .int 0), (4, .int (-1)), (3, .int 81), (0, .ref mo), (1, .int 5), (2, .int what)]) hx hb dX7_best_123 hl568 (by decide) rfl (fun ls569 hl570 => ?_)
                      clear hl568
                      refine lv_aload_n hx hb dX7_best_125 rfl (lv_at hl570 5 rfl) ?_
                      refine zz_cv (WC := [(mo, .inr (7, [.ref ms, .ref mi, .ref ma, .int 0, .ref mts, .ref mtz, .ref mtn, .ref mh, .ref mhn, .ref mhw, .ref mhz, .ref mhr, .ref mcl, .ref mtp, .int 0, .int 0, .int 0, .int 0, .int 0, .int 0, .int 0, .int 0, .int 0, .int 0, .int 0, .ref mna, .ref mpi, .ref mca, .ref mwa, .int 0, .ref mrd])), (ms, .inl (kms, 3047, .inl vf)), (mcl, .inl (kcl, 47, .inl c9657))]) (TC := [(kms, .int), (kcl, .int)]) (WR := []) (TR := []) (k := 0) (n := 0) Z566 [0, 1, 2] [] [0, 1] [] rfl rfl (by decide +kernel) (by decide +kernel) (by decide +kernel) rfl rfl (fun Zc => va_runV (As := []) (rest := []) X (c7_laysBack l D mo ms mi ma mts mtz mtn mh mhn mhw mhz mhr mcl mtp mna mpi mca mwa mrd 0 0 0 0 0 0 0 0 0 0 0 0 0 kms vf kcl c9657 H563.size) (cwV 0 hts gX7_best_X7_laysBack rfl rfl rfl ⟨rfl, zh_X7_laysBack⟩ ⟨Nat.le_of_ble_eq_true rfl, Nat.le_of_ble_eq_true rfl⟩) (zz_pV (ci := 7) Zc 0 rfl rfl) rfl rfl hl570.1 rfl (lv_room (Nat.le_of_ble_eq_true rfl)) dX7_best_126 ⟨Nat.le_of_ble_eq_true rfl, Nat.le_of_ble_eq_true rfl⟩) rfl rfl (fun u659 H571 locs572 hw660 Z573 => ?_)
                      clear Z566
                      obtain ⟨f9662, rfl⟩ : ∃ z, z = u659 := ⟨_, rfl⟩
                      try dsimp only at hw660 Z573
                      have Z574 : zz_S D A s [(mo, .inr (7, [.ref ms, .ref mi, .ref ma, .int 0, .ref mts, .ref mtz, .ref mtn, .ref mh, .ref mhn, .ref mhw, .ref mhz, .ref mhr, .ref mcl, .ref mtp, .int 0, .int 0, .int 0, .int 0, .int 0, .int 0, .int 0, .int 0, .int 0, .int 0, .int 0, .ref mna, .ref mpi, .ref mca, .ref mwa, .int 0, .ref mrd])), (ms, .inl (kms, 3047, .inl f9662)), (mcl, .inl (kcl, 47, .inl c9657))] [(kms, .int), (kcl, .int)] H571 locs572 := Z573
                      clear Z573
                      have p663 : f9662 0 = 0 := (hw660 0 (by decide)).trans ((hw655 0 (by decide)).trans af_0)
                      have p664 : f9662 1 = 0 := (hw660 1 (by decide)).trans ((hw655 1 (by decide)).trans af_1)
                      have p665 : f9662 2 = 0 := (hw660 2 (by decide)).trans ((hw655 2 (by decide)).trans af_2)
                      have p666 : f9662 3 = 0 := (hw660 3 (by decide)).trans ((hw655 3 (by decide)).trans af_3)
                      have p667 : f9662 4 = 0 := (hw660 4 (by decide)).trans ((hw655 4 (by decide)).trans af_4)
                      have p668 : f9662 5 = 0 := (hw660 5 (by decide)).trans ((hw655 5 (by decide)).trans af_5)
                      have p669 : f9662 6 = 1 := (hw660 6 (by decide)).trans ((hw655 6 (by decide)).trans af_6)
                      have p670 : f9662 7 = 0 := (hw660 7 (by decide)).trans ((hw655 7 (by decide)).trans af_7)
                      have p671 : f9662 8 = 3 := (hw660 8 (by decide)).trans ((hw655 8 (by decide)).trans af_8)
                      have p672 : f9662 9 = 10 := (hw660 9 (by decide)).trans ((hw655 9 (by decide)).trans af_9)
                      have p673 : f9662 10 = 0 := (hw660 10 (by decide)).trans ((hw655 10 (by decide)).trans af_10)
                      refine lv_iload hx hb dX7_best_129 (lv_at hl570 3 rfl) ?_
                      refine lv_if_lt (tgt := 141) hx hb dX7_best_131 (by decide) (fun _ => ?_) (fun h => absurd (by decide) h)
                      refine lv_iload hx hb dX7_best_141 (lv_at hl570 1 rfl) ?_
                      refine lv_istore (lv' := [(4, .int (nI i)), (7, .int 0), (6, .int (nI i)), (5, .int 0), (3, .int 81), (0, .ref mo), (1, .int 5), (2, .int what)]) hx hb dX7_best_143 hl570 (by decide) rfl (fun ls575 hl576 => ?_)
                      clear hl570
                      refine lv_iload hx hb dX7_best_145 (lv_at hl576 1 rfl) ?_
                      refine lv_istore (lv' := [(5, .int 0), (4, .int (nI i)), (7, .int 0), (6, .int (nI i)), (3, .int 81), (0, .ref mo), (1, .int 5), (2, .int what)]) hx hb dX7_best_147 hl576 (by decide) rfl (fun ls577 hl578 => ?_)
                      clear hl576
                      refine lv_iinc (v := nI (i + 1)) (lv' := [(6, .int (nI (i + 1))), (5, .int 0), (4, .int (nI i)), (7, .int 0), (3, .int 81), (0, .ref mo), (1, .int 5), (2, .int what)]) hx hb dX7_best_149 hl578 (k := 3) rfl (nI_1 i) (by decide) rfl (fun ls579 hl580 => ?_)
                      clear hl578
                      refine lv_goto (tgt := 59) hx hb dX7_best_152 (by decide) ?_
                      exact ih (i + 1) f9662 (nI i) (by omega) ⟨p663, p664, p665, p666, p667, p668, p669, p670, p671, p672, p673, (Or.inr ⟨by omega, by rw [h0]; rfl⟩)⟩ _ _ _ Z574 (lv_sub hl580 [0, 1, 2, 4, 5, 6, 7] rfl)
                  | succ t iht =>
                      intro ht vf v2 v5 v6 v7 hin H581 locs582 ls583 Z584 hl585
                      have hl586 : lv_has ls583 9 [(7, .int (nI (zz_pw (t + 1)))), (6, .int (nI i)), (5, .int 0), (4, .int (-1)), (3, .int 81), (0, .ref mo), (1, .int 5), (2, .int what)] := hl585
                      clear hl585
                      refine lv_iload hx hb dX7_best_70 (lv_at hl586 0 rfl) ?_
                      refine lv_if_le (tgt := 117) hx hb dX7_best_72 (by decide) (fun h => absurd h (nI_nle (zz_pwP t (by omega)).1 (zz_pwP t (by omega)).2)) (fun _ => ?_)
                      refine lv_iload hx hb dX7_best_75 (lv_at hl586 1 rfl) ?_
                      refine lv_iload hx hb dX7_best_77 (lv_at hl586 0 rfl) ?_
                      refine lv_idiv hx hb dX7_best_79 (nI_ne0 (zz_pwP t (by omega)).1 (zz_pwP t (by omega)).2) ?_
                      refine lv_iconst (v := 3) hx hb dX7_best_80 (by decide) ?_
                      refine lv_irem hx hb dX7_best_81 (by decide) ?_
                      refine lv_topi (fun y674 ey675 => ?_)
                      refine lv_istore (lv' := [(8, .int y674), (7, .int (nI (zz_pw (t + 1)))), (6, .int (nI i)), (5, .int 0), (4, .int (-1)), (3, .int 81), (0, .ref mo), (1, .int 5), (2, .int what)]) hx hb dX7_best_82 hl586 (by decide) rfl (fun ls587 hl588 => ?_)
                      clear hl586
                      refine lv_aload_n hx hb dX7_best_84 rfl (lv_at hl588 6 rfl) ?_
                      refine lv_iload hx hb dX7_best_85 (lv_at hl588 0 rfl) ?_
                      refine lv_if_ne (tgt := 94) hx hb dX7_best_87 (by decide) (fun b676 => ?_) (fun b676 => ?_)
                      · refine lv_iload hx hb dX7_best_94 (lv_at hl588 0 rfl) ?_
                        refine lv_iconst (v := 1) hx hb dX7_best_96 (by decide) ?_
                        refine lv_icmp_ne (tgt := 104) hx hb dX7_best_97 (by decide) (fun b677 => ?_) (fun b677 => ?_)
                        · refine lv_iconst (v := 1) hx hb dX7_best_104 (by decide) ?_
                          refine zz_cv (WC := [(mo, .inr (7, [.ref ms, .ref mi, .ref ma, .int 0, .ref mts, .ref mtz, .ref mtn, .ref mh, .ref mhn, .ref mhw, .ref mhz, .ref mhr, .ref mcl, .ref mtp, .int 0, .int 0, .int 0, .int 0, .int 0, .int 0, .int 0, .int 0, .int 0, .int 0, .int 0, .ref mna, .ref mpi, .ref mca, .ref mwa, .int 0, .ref mrd])), (ms, .inl (kms, 3047, .inl vf))]) (TC := [(kms, .int)]) (WR := [(mcl, .inl (kcl, 47, .inl c9657))]) (TR := [(kcl, .int)]) (k := 0) (n := 0) Z584 [0, 1] [2] [0] [1] rfl rfl (by decide +kernel) (by decide +kernel) (by decide +kernel) rfl rfl (fun Zc => va_runV (As := [.int 1]) (rest := []) X (c7_goesOnBy l D mo ms mi ma mts mtz mtn mh mhn mhw mhz mhr mcl mtp mna mpi mca mwa mrd 0 0 0 0 0 0 0 0 0 0 0 0 0 kms vf 0 v2 0 0 v5 v6 v7 3 10 0 1 hin.1 hin.2.1 hin.2.2.1 hin.2.2.2.1 hin.2.2.2.2.1 hin.2.2.2.2.2.1 hin.2.2.2.2.2.2.1 hin.2.2.2.2.2.2.2.1 hin.2.2.2.2.2.2.2.2.1 hin.2.2.2.2.2.2.2.2.2.1 hin.2.2.2.2.2.2.2.2.2.2 H581.size) (cwV 1 hts gX7_best_X7_goesOnBy rfl rfl rfl ⟨rfl, zh_X7_goesOnBy⟩ ⟨Nat.le_of_ble_eq_true rfl, Nat.le_of_ble_eq_true rfl⟩) (zz_pV (ci := 7) Zc 0 rfl rfl) rfl rfl hl588.1 rfl (lv_room (Nat.le_of_ble_eq_true rfl)) dX7_best_105 ⟨Nat.le_of_ble_eq_true rfl, Nat.le_of_ble_eq_true rfl⟩) rfl rfl (fun u678 H589 locs590 hw679 Z591 => ?_)
                          clear Z584
                          obtain ⟨f9681, F9682, T9683, Z9684⟩ := u678
                          try dsimp only at hw679 Z591
                          obtain ⟨⟨p685, p686, p687, p688, p689, p690, p691, p692, p693, p694, p695⟩, hx696⟩ := hw679
                          obtain ⟨rfl, rfl, rfl⟩ := hx696
                          have Z592 : zz_S D A s [(mcl, .inl (kcl, 47, .inl c9657)), (mo, .inr (7, [.ref ms, .ref mi, .ref ma, .int 0, .ref mts, .ref mtz, .ref mtn, .ref mh, .ref mhn, .ref mhw, .ref mhz, .ref mhr, .ref mcl, .ref mtp, .int 0, .int 0, .int 0, .int 0, .int 0, .int 0, .int 0, .int 0, .int 0, .int 0, .int 0, .ref mna, .ref mpi, .ref mca, .ref mwa, .int 0, .ref mrd])), (ms, .inl (kms, 3047, .inl f9681))] [(kcl, .int), (kms, .int)] H589 locs590 := Z591
                          clear Z591
                          refine lv_iload hx hb dX7_best_108 (lv_at hl588 1 rfl) ?_
                          refine lv_iconst (v := 3) hx hb dX7_best_110 (by decide) ?_
                          refine lv_idiv hx hb dX7_best_111 (by decide) ?_
                          refine zz_v (v := nI (zz_pw t)) (zz_pw3 t (by omega)) ?_
                          refine lv_istore (lv' := [(7, .int (nI (zz_pw t))), (8, .int y674), (6, .int (nI i)), (5, .int 0), (4, .int (-1)), (3, .int 81), (0, .ref mo), (1, .int 5), (2, .int what)]) hx hb dX7_best_112 hl588 (by decide) rfl (fun ls593 hl594 => ?_)
                          clear hl588
                          refine lv_goto (tgt := 70) hx hb dX7_best_114 (by decide) ?_
                          have Z595 := Z592.sub (WS' := [(mo, .inr (7, [.ref ms, .ref mi, .ref ma, .int 0, .ref mts, .ref mtz, .ref mtn, .ref mh, .ref mhn, .ref mhw, .ref mhz, .ref mhr, .ref mcl, .ref mtp, .int 0, .int 0, .int 0, .int 0, .int 0, .int 0, .int 0, .int 0, .int 0, .int 0, .int 0, .ref mna, .ref mpi, .ref mca, .ref mwa, .int 0, .ref mrd])), (ms, .inl (kms, 3047, .inl f9681)), (mcl, .inl (kcl, 47, .inl c9657))]) (TYS' := [(kms, .int), (kcl, .int)]) [1, 2, 0] [1, 0] (by decide +kernel) rfl rfl
                          clear Z592
                          exact iht (by omega) f9681 (v2 + 1) (zz_bT v5 v6 10) (zz_bZ v6 10) (zz_mF v7 1 v6 3 10) ⟨p685, p686, p687, p688, p689, p690, p691, p692, p693, p694, p695⟩ _ _ _ Z595 (lv_sub hl594 [0, 2, 3, 4, 5, 6, 7, 8] rfl)
                        · refine lv_iconst (v := (-1)) hx hb dX7_best_100 (by decide) ?_
                          refine lv_goto (tgt := 105) hx hb dX7_best_101 (by decide) ?_
                          refine zz_cv (WC := [(mo, .inr (7, [.ref ms, .ref mi, .ref ma, .int 0, .ref mts, .ref mtz, .ref mtn, .ref mh, .ref mhn, .ref mhw, .ref mhz, .ref mhr, .ref mcl, .ref mtp, .int 0, .int 0, .int 0, .int 0, .int 0, .int 0, .int 0, .int 0, .int 0, .int 0, .int 0, .ref mna, .ref mpi, .ref mca, .ref mwa, .int 0, .ref mrd])), (ms, .inl (kms, 3047, .inl vf))]) (TC := [(kms, .int)]) (WR := [(mcl, .inl (kcl, 47, .inl c9657))]) (TR := [(kcl, .int)]) (k := 0) (n := 0) Z584 [0, 1] [2] [0] [1] rfl rfl (by decide +kernel) (by decide +kernel) (by decide +kernel) rfl rfl (fun Zc => va_runV (As := [.int (-1)]) (rest := []) X (c7_goesOnBy l D mo ms mi ma mts mtz mtn mh mhn mhw mhz mhr mcl mtp mna mpi mca mwa mrd 0 0 0 0 0 0 0 0 0 0 0 0 0 kms vf 0 v2 0 0 v5 v6 v7 3 10 0 (-1) hin.1 hin.2.1 hin.2.2.1 hin.2.2.2.1 hin.2.2.2.2.1 hin.2.2.2.2.2.1 hin.2.2.2.2.2.2.1 hin.2.2.2.2.2.2.2.1 hin.2.2.2.2.2.2.2.2.1 hin.2.2.2.2.2.2.2.2.2.1 hin.2.2.2.2.2.2.2.2.2.2 H581.size) (cwV 1 hts gX7_best_X7_goesOnBy rfl rfl rfl ⟨rfl, zh_X7_goesOnBy⟩ ⟨Nat.le_of_ble_eq_true rfl, Nat.le_of_ble_eq_true rfl⟩) (zz_pV (ci := 7) Zc 0 rfl rfl) rfl rfl hl588.1 rfl (lv_room (Nat.le_of_ble_eq_true rfl)) dX7_best_105 ⟨Nat.le_of_ble_eq_true rfl, Nat.le_of_ble_eq_true rfl⟩) rfl rfl (fun u697 H596 locs597 hw698 Z598 => ?_)
                          clear Z584
                          obtain ⟨f9700, F9701, T9702, Z9703⟩ := u697
                          try dsimp only at hw698 Z598
                          obtain ⟨⟨p704, p705, p706, p707, p708, p709, p710, p711, p712, p713, p714⟩, hx715⟩ := hw698
                          obtain ⟨rfl, rfl, rfl⟩ := hx715
                          have Z599 : zz_S D A s [(mcl, .inl (kcl, 47, .inl c9657)), (mo, .inr (7, [.ref ms, .ref mi, .ref ma, .int 0, .ref mts, .ref mtz, .ref mtn, .ref mh, .ref mhn, .ref mhw, .ref mhz, .ref mhr, .ref mcl, .ref mtp, .int 0, .int 0, .int 0, .int 0, .int 0, .int 0, .int 0, .int 0, .int 0, .int 0, .int 0, .ref mna, .ref mpi, .ref mca, .ref mwa, .int 0, .ref mrd])), (ms, .inl (kms, 3047, .inl f9700))] [(kcl, .int), (kms, .int)] H596 locs597 := Z598
                          clear Z598
                          refine lv_iload hx hb dX7_best_108 (lv_at hl588 1 rfl) ?_
                          refine lv_iconst (v := 3) hx hb dX7_best_110 (by decide) ?_
                          refine lv_idiv hx hb dX7_best_111 (by decide) ?_
                          refine zz_v (v := nI (zz_pw t)) (zz_pw3 t (by omega)) ?_
                          refine lv_istore (lv' := [(7, .int (nI (zz_pw t))), (8, .int y674), (6, .int (nI i)), (5, .int 0), (4, .int (-1)), (3, .int 81), (0, .ref mo), (1, .int 5), (2, .int what)]) hx hb dX7_best_112 hl588 (by decide) rfl (fun ls600 hl601 => ?_)
                          clear hl588
                          refine lv_goto (tgt := 70) hx hb dX7_best_114 (by decide) ?_
                          have Z602 := Z599.sub (WS' := [(mo, .inr (7, [.ref ms, .ref mi, .ref ma, .int 0, .ref mts, .ref mtz, .ref mtn, .ref mh, .ref mhn, .ref mhw, .ref mhz, .ref mhr, .ref mcl, .ref mtp, .int 0, .int 0, .int 0, .int 0, .int 0, .int 0, .int 0, .int 0, .int 0, .int 0, .int 0, .ref mna, .ref mpi, .ref mca, .ref mwa, .int 0, .ref mrd])), (ms, .inl (kms, 3047, .inl f9700)), (mcl, .inl (kcl, 47, .inl c9657))]) (TYS' := [(kms, .int), (kcl, .int)]) [1, 2, 0] [1, 0] (by decide +kernel) rfl rfl
                          clear Z599
                          exact iht (by omega) f9700 (v2 + 1) (zz_bT v5 v6 10) (zz_bZ v6 10) (zz_mF v7 (-1) v6 3 10) ⟨p704, p705, p706, p707, p708, p709, p710, p711, p712, p713, p714⟩ _ _ _ Z602 (lv_sub hl601 [0, 2, 3, 4, 5, 6, 7, 8] rfl)
                      · refine lv_iconst (v := 0) hx hb dX7_best_90 (by decide) ?_
                        refine lv_goto (tgt := 105) hx hb dX7_best_91 (by decide) ?_
                        refine zz_cv (WC := [(mo, .inr (7, [.ref ms, .ref mi, .ref ma, .int 0, .ref mts, .ref mtz, .ref mtn, .ref mh, .ref mhn, .ref mhw, .ref mhz, .ref mhr, .ref mcl, .ref mtp, .int 0, .int 0, .int 0, .int 0, .int 0, .int 0, .int 0, .int 0, .int 0, .int 0, .int 0, .ref mna, .ref mpi, .ref mca, .ref mwa, .int 0, .ref mrd])), (ms, .inl (kms, 3047, .inl vf))]) (TC := [(kms, .int)]) (WR := [(mcl, .inl (kcl, 47, .inl c9657))]) (TR := [(kcl, .int)]) (k := 0) (n := 0) Z584 [0, 1] [2] [0] [1] rfl rfl (by decide +kernel) (by decide +kernel) (by decide +kernel) rfl rfl (fun Zc => va_runV (As := [.int 0]) (rest := []) X (c7_goesOnBy l D mo ms mi ma mts mtz mtn mh mhn mhw mhz mhr mcl mtp mna mpi mca mwa mrd 0 0 0 0 0 0 0 0 0 0 0 0 0 kms vf 0 v2 0 0 v5 v6 v7 3 10 0 0 hin.1 hin.2.1 hin.2.2.1 hin.2.2.2.1 hin.2.2.2.2.1 hin.2.2.2.2.2.1 hin.2.2.2.2.2.2.1 hin.2.2.2.2.2.2.2.1 hin.2.2.2.2.2.2.2.2.1 hin.2.2.2.2.2.2.2.2.2.1 hin.2.2.2.2.2.2.2.2.2.2 H581.size) (cwV 1 hts gX7_best_X7_goesOnBy rfl rfl rfl ⟨rfl, zh_X7_goesOnBy⟩ ⟨Nat.le_of_ble_eq_true rfl, Nat.le_of_ble_eq_true rfl⟩) (zz_pV (ci := 7) Zc 0 rfl rfl) rfl rfl hl588.1 rfl (lv_room (Nat.le_of_ble_eq_true rfl)) dX7_best_105 ⟨Nat.le_of_ble_eq_true rfl, Nat.le_of_ble_eq_true rfl⟩) rfl rfl (fun u716 H603 locs604 hw717 Z605 => ?_)
                        clear Z584
                        obtain ⟨f9719, F9720, T9721, Z9722⟩ := u716
                        try dsimp only at hw717 Z605
                        obtain ⟨⟨p723, p724, p725, p726, p727, p728, p729, p730, p731, p732, p733⟩, hx734⟩ := hw717
                        obtain ⟨rfl, rfl, rfl⟩ := hx734
                        have Z606 : zz_S D A s [(mcl, .inl (kcl, 47, .inl c9657)), (mo, .inr (7, [.ref ms, .ref mi, .ref ma, .int 0, .ref mts, .ref mtz, .ref mtn, .ref mh, .ref mhn, .ref mhw, .ref mhz, .ref mhr, .ref mcl, .ref mtp, .int 0, .int 0, .int 0, .int 0, .int 0, .int 0, .int 0, .int 0, .int 0, .int 0, .int 0, .ref mna, .ref mpi, .ref mca, .ref mwa, .int 0, .ref mrd])), (ms, .inl (kms, 3047, .inl f9719))] [(kcl, .int), (kms, .int)] H603 locs604 := Z605
                        clear Z605
                        refine lv_iload hx hb dX7_best_108 (lv_at hl588 1 rfl) ?_
                        refine lv_iconst (v := 3) hx hb dX7_best_110 (by decide) ?_
                        refine lv_idiv hx hb dX7_best_111 (by decide) ?_
                        refine zz_v (v := nI (zz_pw t)) (zz_pw3 t (by omega)) ?_
                        refine lv_istore (lv' := [(7, .int (nI (zz_pw t))), (8, .int y674), (6, .int (nI i)), (5, .int 0), (4, .int (-1)), (3, .int 81), (0, .ref mo), (1, .int 5), (2, .int what)]) hx hb dX7_best_112 hl588 (by decide) rfl (fun ls607 hl608 => ?_)
                        clear hl588
                        refine lv_goto (tgt := 70) hx hb dX7_best_114 (by decide) ?_
                        have Z609 := Z606.sub (WS' := [(mo, .inr (7, [.ref ms, .ref mi, .ref ma, .int 0, .ref mts, .ref mtz, .ref mtn, .ref mh, .ref mhn, .ref mhw, .ref mhz, .ref mhr, .ref mcl, .ref mtp, .int 0, .int 0, .int 0, .int 0, .int 0, .int 0, .int 0, .int 0, .int 0, .int 0, .int 0, .ref mna, .ref mpi, .ref mca, .ref mwa, .int 0, .ref mrd])), (ms, .inl (kms, 3047, .inl f9719)), (mcl, .inl (kcl, 47, .inl c9657))]) (TYS' := [(kms, .int), (kcl, .int)]) [1, 2, 0] [1, 0] (by decide +kernel) rfl rfl
                        clear Z606
                        exact iht (by omega) f9719 (v2 + 1) (zz_bT v5 v6 10) (zz_bZ v6 10) (zz_mF v7 0 v6 3 10) ⟨p723, p724, p725, p726, p727, p728, p729, p730, p731, p732, p733⟩ _ _ _ Z609 (lv_sub hl608 [0, 2, 3, 4, 5, 6, 7, 8] rfl)
                exact inner 5 (by decide) vf 0 0 1 0 ⟨hinv.1, hinv.2.1, hinv.2.2.1, hinv.2.2.2.1, hinv.2.2.2.2.1, hinv.2.2.2.2.2.1, hinv.2.2.2.2.2.2.1, hinv.2.2.2.2.2.2.2.1, hinv.2.2.2.2.2.2.2.2.1, hinv.2.2.2.2.2.2.2.2.2.1, hinv.2.2.2.2.2.2.2.2.2.2.1⟩ _ _ _ Z559 hl562
              · subst hv
                refine lv_iload hx hb dX7_best_59 (lv_at hl560 0 rfl) ?_
                refine lv_iconst (v := 3) hx hb dX7_best_61 (by decide) ?_
                refine lv_iload_n hx hb dX7_best_62 rfl (lv_at hl560 3 rfl) ?_
                refine lv_imul hx hb dX7_best_63 ?_
                refine zz_v (v := 243) (by decide) ?_
                refine lv_icmp_ge (tgt := 155) hx hb dX7_best_64 (by decide) (fun h => absurd h (nI_ge (a := i) (b := 243) (by omega) (by omega))) (fun _ => ?_)
                refine lv_iload_n hx hb dX7_best_67 rfl (lv_at hl560 3 rfl) ?_
                refine lv_istore (lv' := [(7, .int 81), (6, .int (nI i)), (5, .int 0), (4, .int 0), (3, .int 81), (0, .ref mo), (1, .int 5), (2, .int what)]) hx hb dX7_best_68 hl560 (by decide) rfl (fun ls610 hl611 => ?_)
                clear hl560
                have inner : ∀ (t : Nat), t ≤ 5 → ∀ (vf : Nat → Int32) (v2 v5 v6 v7 : Int32), vf 0 = 0 ∧ vf 1 = 0 ∧ vf 2 = v2 ∧ vf 3 = 0 ∧ vf 4 = 0 ∧ vf 5 = v5 ∧ vf 6 = v6 ∧ vf 7 = v7 ∧ vf 8 = 3 ∧ vf 9 = 10 ∧ vf 10 = 0 → ∀ (Hq : Heap) (Lq : List Loc) (lq : Array Slot), zz_S D A s [(mo, .inr (7, [.ref ms, .ref mi, .ref ma, .int 0, .ref mts, .ref mtz, .ref mtn, .ref mh, .ref mhn, .ref mhw, .ref mhz, .ref mhr, .ref mcl, .ref mtp, .int 0, .int 0, .int 0, .int 0, .int 0, .int 0, .int 0, .int 0, .int 0, .int 0, .int 0, .ref mna, .ref mpi, .ref mca, .ref mwa, .int 0, .ref mrd])), (ms, .inl (kms, 3047, .inl vf)), (mcl, .inl (kcl, 47, .inl c9657))] [(kms, .int), (kcl, .int)] Hq Lq → lv_has lq 9 [(7, .int (nI (zz_pw t))), (6, .int (nI i)), (5, .int 0), (4, .int 0), (3, .int 81), (0, .ref mo), (1, .int 5), (2, .int what)] → W p l e (headSpec wsX7_best { frames := 3, cells := 0, slots := 0, locals := 64 }).room s m (List.toArray [.ref mo, .int 5, .int what]) below meth c Hq Lq 0 0 (MQ below (va_Qi (fun (r : Int32) (u : Unit) => r = sp_best 5 what) (fun u t => zz_B D A ((fun (u : Unit) => []) u) ((fun (u : Unit) => []) u) t) A) (List.toArray [.ref mo, .int 5, .int what]) s 0 0 A) (F0 m 70 lq []) := by
                  intro t
                  induction t with
                  | zero =>
                      intro ht vf v2 v5 v6 v7 hin H612 locs613 ls614 Z615 hl616
                      have hl617 : lv_has ls614 9 [(7, .int 0), (6, .int (nI i)), (5, .int 0), (4, .int 0), (3, .int 81), (0, .ref mo), (1, .int 5), (2, .int what)] := hl616
                      clear hl616
                      refine lv_iload hx hb dX7_best_70 (lv_at hl617 0 rfl) ?_
                      refine lv_if_le (tgt := 117) hx hb dX7_best_72 (by decide) (fun _ => ?_) (fun h => absurd (by decide) h)
                      refine lv_aload_n hx hb dX7_best_117 rfl (lv_at hl617 5 rfl) ?_
                      refine zz_get X Z615 0 rfl rfl (fun w h => List.mem_cons_of_mem _ (List.mem_append_right _ h)) 0 rfl (zz_m 3 rfl) rfl dX7_best_118 ?_
                      refine lv_iconst (v := 4) hx hb dX7_best_121 (by decide) ?_
                      refine zz_ild X Z615 1 0 rfl rfl (zz_in 4 3047 rfl) dX7_best_122 ?_
                      refine zz_v (v := 0) hin.2.2.2.2.1 ?_
                      refine lv_istore (lv' := [(7, .int 0), (6, .int (nI i)), (5, .int 0), (4, .int 0), (3, .int 81), (0, .ref mo), (1, .int 5), (2, .int what)]) hx hb dX7_best_123 hl617 (by decide) rfl (fun ls618 hl619 => ?_)
                      clear hl617
                      refine lv_aload_n hx hb dX7_best_125 rfl (lv_at hl619 5 rfl) ?_
                      refine zz_cv (WC := [(mo, .inr (7, [.ref ms, .ref mi, .ref ma, .int 0, .ref mts, .ref mtz, .ref mtn, .ref mh, .ref mhn, .ref mhw, .ref mhz, .ref mhr, .ref mcl, .ref mtp, .int 0, .int 0, .int 0, .int 0, .int 0, .int 0, .int 0, .int 0, .int 0, .int 0, .int 0, .ref mna, .ref mpi, .ref mca, .ref mwa, .int 0, .ref mrd])), (ms, .inl (kms, 3047, .inl vf)), (mcl, .inl (kcl, 47, .inl c9657))]) (TC := [(kms, .int), (kcl, .int)]) (WR := []) (TR := []) (k := 0) (n := 0) Z615 [0, 1, 2] [] [0, 1] [] rfl rfl (by decide +kernel) (by decide +kernel) (by decide +kernel) rfl rfl (fun Zc => va_runV (As := []) (rest := []) X (c7_laysBack l D mo ms mi ma mts mtz mtn mh mhn mhw mhz mhr mcl mtp mna mpi mca mwa mrd 0 0 0 0 0 0 0 0 0 0 0 0 0 kms vf kcl c9657 H612.size) (cwV 0 hts gX7_best_X7_laysBack rfl rfl rfl ⟨rfl, zh_X7_laysBack⟩ ⟨Nat.le_of_ble_eq_true rfl, Nat.le_of_ble_eq_true rfl⟩) (zz_pV (ci := 7) Zc 0 rfl rfl) rfl rfl hl619.1 rfl (lv_room (Nat.le_of_ble_eq_true rfl)) dX7_best_126 ⟨Nat.le_of_ble_eq_true rfl, Nat.le_of_ble_eq_true rfl⟩) rfl rfl (fun u735 H620 locs621 hw736 Z622 => ?_)
                      clear Z615
                      obtain ⟨f9738, rfl⟩ : ∃ z, z = u735 := ⟨_, rfl⟩
                      try dsimp only at hw736 Z622
                      have Z623 : zz_S D A s [(mo, .inr (7, [.ref ms, .ref mi, .ref ma, .int 0, .ref mts, .ref mtz, .ref mtn, .ref mh, .ref mhn, .ref mhw, .ref mhz, .ref mhr, .ref mcl, .ref mtp, .int 0, .int 0, .int 0, .int 0, .int 0, .int 0, .int 0, .int 0, .int 0, .int 0, .int 0, .ref mna, .ref mpi, .ref mca, .ref mwa, .int 0, .ref mrd])), (ms, .inl (kms, 3047, .inl f9738)), (mcl, .inl (kcl, 47, .inl c9657))] [(kms, .int), (kcl, .int)] H620 locs621 := Z622
                      clear Z622
                      have p739 : f9738 0 = 0 := (hw736 0 (by decide)).trans ((hw655 0 (by decide)).trans af_0)
                      have p740 : f9738 1 = 0 := (hw736 1 (by decide)).trans ((hw655 1 (by decide)).trans af_1)
                      have p741 : f9738 2 = 0 := (hw736 2 (by decide)).trans ((hw655 2 (by decide)).trans af_2)
                      have p742 : f9738 3 = 0 := (hw736 3 (by decide)).trans ((hw655 3 (by decide)).trans af_3)
                      have p743 : f9738 4 = 0 := (hw736 4 (by decide)).trans ((hw655 4 (by decide)).trans af_4)
                      have p744 : f9738 5 = 0 := (hw736 5 (by decide)).trans ((hw655 5 (by decide)).trans af_5)
                      have p745 : f9738 6 = 1 := (hw736 6 (by decide)).trans ((hw655 6 (by decide)).trans af_6)
                      have p746 : f9738 7 = 0 := (hw736 7 (by decide)).trans ((hw655 7 (by decide)).trans af_7)
                      have p747 : f9738 8 = 3 := (hw736 8 (by decide)).trans ((hw655 8 (by decide)).trans af_8)
                      have p748 : f9738 9 = 10 := (hw736 9 (by decide)).trans ((hw655 9 (by decide)).trans af_9)
                      have p749 : f9738 10 = 0 := (hw736 10 (by decide)).trans ((hw655 10 (by decide)).trans af_10)
                      refine lv_iload hx hb dX7_best_129 (lv_at hl619 3 rfl) ?_
                      refine lv_if_lt (tgt := 141) hx hb dX7_best_131 (by decide) (fun h => absurd h (by decide)) (fun _ => ?_)
                      refine lv_iload hx hb dX7_best_134 (lv_at hl619 0 rfl) ?_
                      refine lv_iload hx hb dX7_best_136 (lv_at hl619 2 rfl) ?_
                      refine lv_icmp_ge (tgt := 149) hx hb dX7_best_138 (by decide) (fun _ => ?_) (fun h => absurd (by decide) h)
                      refine lv_iinc (v := nI (i + 1)) (lv' := [(6, .int (nI (i + 1))), (7, .int 0), (5, .int 0), (4, .int 0), (3, .int 81), (0, .ref mo), (1, .int 5), (2, .int what)]) hx hb dX7_best_149 hl619 (k := 1) rfl (nI_1 i) (by decide) rfl (fun ls624 hl625 => ?_)
                      clear hl619
                      refine lv_goto (tgt := 59) hx hb dX7_best_152 (by decide) ?_
                      exact ih (i + 1) f9738 0 (by omega) ⟨p739, p740, p741, p742, p743, p744, p745, p746, p747, p748, p749, (Or.inr ⟨by omega, rfl⟩)⟩ _ _ _ Z623 (lv_sub hl625 [0, 2, 3, 4, 5, 6, 7] rfl)
                  | succ t iht =>
                      intro ht vf v2 v5 v6 v7 hin H626 locs627 ls628 Z629 hl630
                      have hl631 : lv_has ls628 9 [(7, .int (nI (zz_pw (t + 1)))), (6, .int (nI i)), (5, .int 0), (4, .int 0), (3, .int 81), (0, .ref mo), (1, .int 5), (2, .int what)] := hl630
                      clear hl630
                      refine lv_iload hx hb dX7_best_70 (lv_at hl631 0 rfl) ?_
                      refine lv_if_le (tgt := 117) hx hb dX7_best_72 (by decide) (fun h => absurd h (nI_nle (zz_pwP t (by omega)).1 (zz_pwP t (by omega)).2)) (fun _ => ?_)
                      refine lv_iload hx hb dX7_best_75 (lv_at hl631 1 rfl) ?_
                      refine lv_iload hx hb dX7_best_77 (lv_at hl631 0 rfl) ?_
                      refine lv_idiv hx hb dX7_best_79 (nI_ne0 (zz_pwP t (by omega)).1 (zz_pwP t (by omega)).2) ?_
                      refine lv_iconst (v := 3) hx hb dX7_best_80 (by decide) ?_
                      refine lv_irem hx hb dX7_best_81 (by decide) ?_
                      refine lv_topi (fun y750 ey751 => ?_)
                      refine lv_istore (lv' := [(8, .int y750), (7, .int (nI (zz_pw (t + 1)))), (6, .int (nI i)), (5, .int 0), (4, .int 0), (3, .int 81), (0, .ref mo), (1, .int 5), (2, .int what)]) hx hb dX7_best_82 hl631 (by decide) rfl (fun ls632 hl633 => ?_)
                      clear hl631
                      refine lv_aload_n hx hb dX7_best_84 rfl (lv_at hl633 6 rfl) ?_
                      refine lv_iload hx hb dX7_best_85 (lv_at hl633 0 rfl) ?_
                      refine lv_if_ne (tgt := 94) hx hb dX7_best_87 (by decide) (fun b752 => ?_) (fun b752 => ?_)
                      · refine lv_iload hx hb dX7_best_94 (lv_at hl633 0 rfl) ?_
                        refine lv_iconst (v := 1) hx hb dX7_best_96 (by decide) ?_
                        refine lv_icmp_ne (tgt := 104) hx hb dX7_best_97 (by decide) (fun b753 => ?_) (fun b753 => ?_)
                        · refine lv_iconst (v := 1) hx hb dX7_best_104 (by decide) ?_
                          refine zz_cv (WC := [(mo, .inr (7, [.ref ms, .ref mi, .ref ma, .int 0, .ref mts, .ref mtz, .ref mtn, .ref mh, .ref mhn, .ref mhw, .ref mhz, .ref mhr, .ref mcl, .ref mtp, .int 0, .int 0, .int 0, .int 0, .int 0, .int 0, .int 0, .int 0, .int 0, .int 0, .int 0, .ref mna, .ref mpi, .ref mca, .ref mwa, .int 0, .ref mrd])), (ms, .inl (kms, 3047, .inl vf))]) (TC := [(kms, .int)]) (WR := [(mcl, .inl (kcl, 47, .inl c9657))]) (TR := [(kcl, .int)]) (k := 0) (n := 0) Z629 [0, 1] [2] [0] [1] rfl rfl (by decide +kernel) (by decide +kernel) (by decide +kernel) rfl rfl (fun Zc => va_runV (As := [.int 1]) (rest := []) X (c7_goesOnBy l D mo ms mi ma mts mtz mtn mh mhn mhw mhz mhr mcl mtp mna mpi mca mwa mrd 0 0 0 0 0 0 0 0 0 0 0 0 0 kms vf 0 v2 0 0 v5 v6 v7 3 10 0 1 hin.1 hin.2.1 hin.2.2.1 hin.2.2.2.1 hin.2.2.2.2.1 hin.2.2.2.2.2.1 hin.2.2.2.2.2.2.1 hin.2.2.2.2.2.2.2.1 hin.2.2.2.2.2.2.2.2.1 hin.2.2.2.2.2.2.2.2.2.1 hin.2.2.2.2.2.2.2.2.2.2 H626.size) (cwV 1 hts gX7_best_X7_goesOnBy rfl rfl rfl ⟨rfl, zh_X7_goesOnBy⟩ ⟨Nat.le_of_ble_eq_true rfl, Nat.le_of_ble_eq_true rfl⟩) (zz_pV (ci := 7) Zc 0 rfl rfl) rfl rfl hl633.1 rfl (lv_room (Nat.le_of_ble_eq_true rfl)) dX7_best_105 ⟨Nat.le_of_ble_eq_true rfl, Nat.le_of_ble_eq_true rfl⟩) rfl rfl (fun u754 H634 locs635 hw755 Z636 => ?_)
                          clear Z629
                          obtain ⟨f9757, F9758, T9759, Z9760⟩ := u754
                          try dsimp only at hw755 Z636
                          obtain ⟨⟨p761, p762, p763, p764, p765, p766, p767, p768, p769, p770, p771⟩, hx772⟩ := hw755
                          obtain ⟨rfl, rfl, rfl⟩ := hx772
                          have Z637 : zz_S D A s [(mcl, .inl (kcl, 47, .inl c9657)), (mo, .inr (7, [.ref ms, .ref mi, .ref ma, .int 0, .ref mts, .ref mtz, .ref mtn, .ref mh, .ref mhn, .ref mhw, .ref mhz, .ref mhr, .ref mcl, .ref mtp, .int 0, .int 0, .int 0, .int 0, .int 0, .int 0, .int 0, .int 0, .int 0, .int 0, .int 0, .ref mna, .ref mpi, .ref mca, .ref mwa, .int 0, .ref mrd])), (ms, .inl (kms, 3047, .inl f9757))] [(kcl, .int), (kms, .int)] H634 locs635 := Z636
                          clear Z636
                          refine lv_iload hx hb dX7_best_108 (lv_at hl633 1 rfl) ?_
                          refine lv_iconst (v := 3) hx hb dX7_best_110 (by decide) ?_
                          refine lv_idiv hx hb dX7_best_111 (by decide) ?_
                          refine zz_v (v := nI (zz_pw t)) (zz_pw3 t (by omega)) ?_
                          refine lv_istore (lv' := [(7, .int (nI (zz_pw t))), (8, .int y750), (6, .int (nI i)), (5, .int 0), (4, .int 0), (3, .int 81), (0, .ref mo), (1, .int 5), (2, .int what)]) hx hb dX7_best_112 hl633 (by decide) rfl (fun ls638 hl639 => ?_)
                          clear hl633
                          refine lv_goto (tgt := 70) hx hb dX7_best_114 (by decide) ?_
                          have Z640 := Z637.sub (WS' := [(mo, .inr (7, [.ref ms, .ref mi, .ref ma, .int 0, .ref mts, .ref mtz, .ref mtn, .ref mh, .ref mhn, .ref mhw, .ref mhz, .ref mhr, .ref mcl, .ref mtp, .int 0, .int 0, .int 0, .int 0, .int 0, .int 0, .int 0, .int 0, .int 0, .int 0, .int 0, .ref mna, .ref mpi, .ref mca, .ref mwa, .int 0, .ref mrd])), (ms, .inl (kms, 3047, .inl f9757)), (mcl, .inl (kcl, 47, .inl c9657))]) (TYS' := [(kms, .int), (kcl, .int)]) [1, 2, 0] [1, 0] (by decide +kernel) rfl rfl
                          clear Z637
                          exact iht (by omega) f9757 (v2 + 1) (zz_bT v5 v6 10) (zz_bZ v6 10) (zz_mF v7 1 v6 3 10) ⟨p761, p762, p763, p764, p765, p766, p767, p768, p769, p770, p771⟩ _ _ _ Z640 (lv_sub hl639 [0, 2, 3, 4, 5, 6, 7, 8] rfl)
                        · refine lv_iconst (v := (-1)) hx hb dX7_best_100 (by decide) ?_
                          refine lv_goto (tgt := 105) hx hb dX7_best_101 (by decide) ?_
                          refine zz_cv (WC := [(mo, .inr (7, [.ref ms, .ref mi, .ref ma, .int 0, .ref mts, .ref mtz, .ref mtn, .ref mh, .ref mhn, .ref mhw, .ref mhz, .ref mhr, .ref mcl, .ref mtp, .int 0, .int 0, .int 0, .int 0, .int 0, .int 0, .int 0, .int 0, .int 0, .int 0, .int 0, .ref mna, .ref mpi, .ref mca, .ref mwa, .int 0, .ref mrd])), (ms, .inl (kms, 3047, .inl vf))]) (TC := [(kms, .int)]) (WR := [(mcl, .inl (kcl, 47, .inl c9657))]) (TR := [(kcl, .int)]) (k := 0) (n := 0) Z629 [0, 1] [2] [0] [1] rfl rfl (by decide +kernel) (by decide +kernel) (by decide +kernel) rfl rfl (fun Zc => va_runV (As := [.int (-1)]) (rest := []) X (c7_goesOnBy l D mo ms mi ma mts mtz mtn mh mhn mhw mhz mhr mcl mtp mna mpi mca mwa mrd 0 0 0 0 0 0 0 0 0 0 0 0 0 kms vf 0 v2 0 0 v5 v6 v7 3 10 0 (-1) hin.1 hin.2.1 hin.2.2.1 hin.2.2.2.1 hin.2.2.2.2.1 hin.2.2.2.2.2.1 hin.2.2.2.2.2.2.1 hin.2.2.2.2.2.2.2.1 hin.2.2.2.2.2.2.2.2.1 hin.2.2.2.2.2.2.2.2.2.1 hin.2.2.2.2.2.2.2.2.2.2 H626.size) (cwV 1 hts gX7_best_X7_goesOnBy rfl rfl rfl ⟨rfl, zh_X7_goesOnBy⟩ ⟨Nat.le_of_ble_eq_true rfl, Nat.le_of_ble_eq_true rfl⟩) (zz_pV (ci := 7) Zc 0 rfl rfl) rfl rfl hl633.1 rfl (lv_room (Nat.le_of_ble_eq_true rfl)) dX7_best_105 ⟨Nat.le_of_ble_eq_true rfl, Nat.le_of_ble_eq_true rfl⟩) rfl rfl (fun u773 H641 locs642 hw774 Z643 => ?_)
                          clear Z629
                          obtain ⟨f9776, F9777, T9778, Z9779⟩ := u773
                          try dsimp only at hw774 Z643
                          obtain ⟨⟨p780, p781, p782, p783, p784, p785, p786, p787, p788, p789, p790⟩, hx791⟩ := hw774
                          obtain ⟨rfl, rfl, rfl⟩ := hx791
                          have Z644 : zz_S D A s [(mcl, .inl (kcl, 47, .inl c9657)), (mo, .inr (7, [.ref ms, .ref mi, .ref ma, .int 0, .ref mts, .ref mtz, .ref mtn, .ref mh, .ref mhn, .ref mhw, .ref mhz, .ref mhr, .ref mcl, .ref mtp, .int 0, .int 0, .int 0, .int 0, .int 0, .int 0, .int 0, .int 0, .int 0, .int 0, .int 0, .ref mna, .ref mpi, .ref mca, .ref mwa, .int 0, .ref mrd])), (ms, .inl (kms, 3047, .inl f9776))] [(kcl, .int), (kms, .int)] H641 locs642 := Z643
                          clear Z643
                          refine lv_iload hx hb dX7_best_108 (lv_at hl633 1 rfl) ?_
                          refine lv_iconst (v := 3) hx hb dX7_best_110 (by decide) ?_
                          refine lv_idiv hx hb dX7_best_111 (by decide) ?_
                          refine zz_v (v := nI (zz_pw t)) (zz_pw3 t (by omega)) ?_
                          refine lv_istore (lv' := [(7, .int (nI (zz_pw t))), (8, .int y750), (6, .int (nI i)), (5, .int 0), (4, .int 0), (3, .int 81), (0, .ref mo), (1, .int 5), (2, .int what)]) hx hb dX7_best_112 hl633 (by decide) rfl (fun ls645 hl646 => ?_)
                          clear hl633
                          refine lv_goto (tgt := 70) hx hb dX7_best_114 (by decide) ?_
                          have Z647 := Z644.sub (WS' := [(mo, .inr (7, [.ref ms, .ref mi, .ref ma, .int 0, .ref mts, .ref mtz, .ref mtn, .ref mh, .ref mhn, .ref mhw, .ref mhz, .ref mhr, .ref mcl, .ref mtp, .int 0, .int 0, .int 0, .int 0, .int 0, .int 0, .int 0, .int 0, .int 0, .int 0, .int 0, .ref mna, .ref mpi, .ref mca, .ref mwa, .int 0, .ref mrd])), (ms, .inl (kms, 3047, .inl f9776)), (mcl, .inl (kcl, 47, .inl c9657))]) (TYS' := [(kms, .int), (kcl, .int)]) [1, 2, 0] [1, 0] (by decide +kernel) rfl rfl
                          clear Z644
                          exact iht (by omega) f9776 (v2 + 1) (zz_bT v5 v6 10) (zz_bZ v6 10) (zz_mF v7 (-1) v6 3 10) ⟨p780, p781, p782, p783, p784, p785, p786, p787, p788, p789, p790⟩ _ _ _ Z647 (lv_sub hl646 [0, 2, 3, 4, 5, 6, 7, 8] rfl)
                      · refine lv_iconst (v := 0) hx hb dX7_best_90 (by decide) ?_
                        refine lv_goto (tgt := 105) hx hb dX7_best_91 (by decide) ?_
                        refine zz_cv (WC := [(mo, .inr (7, [.ref ms, .ref mi, .ref ma, .int 0, .ref mts, .ref mtz, .ref mtn, .ref mh, .ref mhn, .ref mhw, .ref mhz, .ref mhr, .ref mcl, .ref mtp, .int 0, .int 0, .int 0, .int 0, .int 0, .int 0, .int 0, .int 0, .int 0, .int 0, .int 0, .ref mna, .ref mpi, .ref mca, .ref mwa, .int 0, .ref mrd])), (ms, .inl (kms, 3047, .inl vf))]) (TC := [(kms, .int)]) (WR := [(mcl, .inl (kcl, 47, .inl c9657))]) (TR := [(kcl, .int)]) (k := 0) (n := 0) Z629 [0, 1] [2] [0] [1] rfl rfl (by decide +kernel) (by decide +kernel) (by decide +kernel) rfl rfl (fun Zc => va_runV (As := [.int 0]) (rest := []) X (c7_goesOnBy l D mo ms mi ma mts mtz mtn mh mhn mhw mhz mhr mcl mtp mna mpi mca mwa mrd 0 0 0 0 0 0 0 0 0 0 0 0 0 kms vf 0 v2 0 0 v5 v6 v7 3 10 0 0 hin.1 hin.2.1 hin.2.2.1 hin.2.2.2.1 hin.2.2.2.2.1 hin.2.2.2.2.2.1 hin.2.2.2.2.2.2.1 hin.2.2.2.2.2.2.2.1 hin.2.2.2.2.2.2.2.2.1 hin.2.2.2.2.2.2.2.2.2.1 hin.2.2.2.2.2.2.2.2.2.2 H626.size) (cwV 1 hts gX7_best_X7_goesOnBy rfl rfl rfl ⟨rfl, zh_X7_goesOnBy⟩ ⟨Nat.le_of_ble_eq_true rfl, Nat.le_of_ble_eq_true rfl⟩) (zz_pV (ci := 7) Zc 0 rfl rfl) rfl rfl hl633.1 rfl (lv_room (Nat.le_of_ble_eq_true rfl)) dX7_best_105 ⟨Nat.le_of_ble_eq_true rfl, Nat.le_of_ble_eq_true rfl⟩) rfl rfl (fun u792 H648 locs649 hw793 Z650 => ?_)
                        clear Z629
                        obtain ⟨f9795, F9796, T9797, Z9798⟩ := u792
                        try dsimp only at hw793 Z650
                        obtain ⟨⟨p799, p800, p801, p802, p803, p804, p805, p806, p807, p808, p809⟩, hx810⟩ := hw793
                        obtain ⟨rfl, rfl, rfl⟩ := hx810
                        have Z651 : zz_S D A s [(mcl, .inl (kcl, 47, .inl c9657)), (mo, .inr (7, [.ref ms, .ref mi, .ref ma, .int 0, .ref mts, .ref mtz, .ref mtn, .ref mh, .ref mhn, .ref mhw, .ref mhz, .ref mhr, .ref mcl, .ref mtp, .int 0, .int 0, .int 0, .int 0, .int 0, .int 0, .int 0, .int 0, .int 0, .int 0, .int 0, .ref mna, .ref mpi, .ref mca, .ref mwa, .int 0, .ref mrd])), (ms, .inl (kms, 3047, .inl f9795))] [(kcl, .int), (kms, .int)] H648 locs649 := Z650
                        clear Z650
                        refine lv_iload hx hb dX7_best_108 (lv_at hl633 1 rfl) ?_
                        refine lv_iconst (v := 3) hx hb dX7_best_110 (by decide) ?_
                        refine lv_idiv hx hb dX7_best_111 (by decide) ?_
                        refine zz_v (v := nI (zz_pw t)) (zz_pw3 t (by omega)) ?_
                        refine lv_istore (lv' := [(7, .int (nI (zz_pw t))), (8, .int y750), (6, .int (nI i)), (5, .int 0), (4, .int 0), (3, .int 81), (0, .ref mo), (1, .int 5), (2, .int what)]) hx hb dX7_best_112 hl633 (by decide) rfl (fun ls652 hl653 => ?_)
                        clear hl633
                        refine lv_goto (tgt := 70) hx hb dX7_best_114 (by decide) ?_
                        have Z654 := Z651.sub (WS' := [(mo, .inr (7, [.ref ms, .ref mi, .ref ma, .int 0, .ref mts, .ref mtz, .ref mtn, .ref mh, .ref mhn, .ref mhw, .ref mhz, .ref mhr, .ref mcl, .ref mtp, .int 0, .int 0, .int 0, .int 0, .int 0, .int 0, .int 0, .int 0, .int 0, .int 0, .int 0, .ref mna, .ref mpi, .ref mca, .ref mwa, .int 0, .ref mrd])), (ms, .inl (kms, 3047, .inl f9795)), (mcl, .inl (kcl, 47, .inl c9657))]) (TYS' := [(kms, .int), (kcl, .int)]) [1, 2, 0] [1, 0] (by decide +kernel) rfl rfl
                        clear Z651
                        exact iht (by omega) f9795 (v2 + 1) (zz_bT v5 v6 10) (zz_bZ v6 10) (zz_mF v7 0 v6 3 10) ⟨p799, p800, p801, p802, p803, p804, p805, p806, p807, p808, p809⟩ _ _ _ Z654 (lv_sub hl653 [0, 2, 3, 4, 5, 6, 7, 8] rfl)
                exact inner 5 (by decide) vf 0 0 1 0 ⟨hinv.1, hinv.2.1, hinv.2.2.1, hinv.2.2.2.1, hinv.2.2.2.2.1, hinv.2.2.2.2.2.1, hinv.2.2.2.2.2.2.1, hinv.2.2.2.2.2.2.2.1, hinv.2.2.2.2.2.2.2.2.1, hinv.2.2.2.2.2.2.2.2.2.1, hinv.2.2.2.2.2.2.2.2.2.2.1⟩ _ _ _ Z559 hl611
        exact loop 243 0 f (-1) (by omega) ⟨af_0, af_1, af_2, af_3, af_4, af_5, af_6, af_7, af_8, af_9, af_10, (Or.inl ⟨rfl, rfl⟩)⟩ _ _ _ Z544 hl550
      · refine zz_v (v := 0) (zz_wiF w653) ?_
        refine lv_if_ne (tgt := 25) hx hb dX7_best_19 (by decide) (fun h => absurd (by decide) h) (fun _ => ?_)
        refine lv_ldc (v := (-1000000001)) hx hb hown (hts _ (zz_m 2 rfl)) dX7_best_22 ?_
        exact zz_iret X hr hlk Z520 () (by simp [sp_best, w653]) [] [] (by decide +kernel) rfl rfl dX7_best_24
  · refine zz_v (v := 0) (zz_wiF w4) ?_
    refine lv_if_eq (tgt := 22) hx hb dX7_best_9 (by decide) (fun _ => ?_) (fun h => absurd (by decide) h)
    refine lv_ldc (v := (-1000000001)) hx hb hown (hts _ (zz_m 2 rfl)) dX7_best_22 ?_
    exact zz_iret X hr hlk Z4 () (by simp [sp_best, w4]) [] [] (by decide +kernel) rfl rfl dX7_best_24
