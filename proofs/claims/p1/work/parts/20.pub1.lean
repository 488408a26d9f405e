set_option maxHeartbeats 4000000 in
set_option maxRecDepth 100000 in
theorem c_isSheet (l : Launch) (D : va_G) (v : Int32)  : zz_MI l yX6_isSheet wsX6_isSheet 1 22 0 0 D [.int v] [] [] (fun (r : Int32) (u : Unit) => r = zz_wi v 0 3) (fun (u : Unit) => []) (fun (u : Unit) => []) := by
  intro sz
  refine Met.ofW (cc := cX6_isSheet) (maxL := 1) (ret := (some .boolean)) (by decide) rfl ?_
  intro p e s m args below meth c s₁ B hml hv
  obtain ⟨rfl, hC⟩ := hv
  have hx := B.exec
  have hb := B.bytes
  have hr := B.returns
  have hts := atoms_spec (ws := wsX6_isSheet) B.pre
  have hown : s.vm.findClass RX6 = some m.cls := findClass_of_methodNamed B.named
  have hlk := B.notSynchronized
  have X : CallFix p m c cX6_isSheet 1 s _ wsX6_isSheet RX6 := ⟨hx, hb, hml, hown, hts⟩
  have Z := zz_enter hC
  generalize va_A [] sz = A at Z ⊢
  have hl := lv_entry ([.int v]) (n := 1) (Nat.le_of_ble_eq_true rfl)
  rw [lg_entry_eq]
  generalize (lg_sl ([.int v]) ++ List.replicate (1 - (lg_sl ([.int v])).length) Slot.unset).toArray = ls at hl ⊢
  have hl : lv_has ls 1 [(0, .int v)] := hl
  refine lv_iload_n hx hb dX6_isSheet_0 rfl (lv_at hl 0 rfl) ?_
  refine lv_iconst (v := 0) hx hb dX6_isSheet_1 (by decide) ?_
  refine lv_iconst (v := 3) hx hb dX6_isSheet_2 (by decide) ?_
  refine zz_ci (WC := []) (TC := []) (WR := []) (TR := []) (k := 0) (n := 0) Z [] [] [] [] rfl rfl (by decide +kernel) (by decide +kernel) (by decide +kernel) rfl rfl (fun Zc => va_runS (As := [.int v, .int 0, .int 3]) (rest := []) X (c_within l D v 0 3 s.heap.size) (va_cwS 3 hts gX6_isSheet_X6_within rfl rfl rfl zh_X6_within ⟨Nat.le_of_ble_eq_true rfl, Nat.le_of_ble_eq_true rfl⟩) (zz_pS Zc) rfl rfl hl.1 rfl (lv_room (Nat.le_of_ble_eq_true rfl)) dX6_isSheet_3 ⟨Nat.le_of_ble_eq_true rfl, Nat.le_of_ble_eq_true rfl⟩) rfl rfl (fun r3 u1 H1 locs2 hw2 Z3 => ?_)
  clear Z
  subst r3
  have Z4 : zz_S D A s [] [] H1 locs2 := Z3
  clear Z3
  exact zz_zret X hr hlk Z4 (zz_wiN _ _ _) () rfl [] [] (by decide +kernel) rfl rfl dX6_isSheet_6

set_option maxHeartbeats 4000000 in
set_option maxRecDepth 100000 in
theorem c_isSlot (l : Launch) (D : va_G) (v : Int32)  : zz_MI l yX6_isSlot wsX6_isSlot 1 22 0 0 D [.int v] [] [] (fun (r : Int32) (u : Unit) => r = zz_wi v 0 4) (fun (u : Unit) => []) (fun (u : Unit) => []) := by
  intro sz
  refine Met.ofW (cc := cX6_isSlot) (maxL := 1) (ret := (some .boolean)) (by decide) rfl ?_
  intro p e s m args below meth c s₁ B hml hv
  obtain ⟨rfl, hC⟩ := hv
  have hx := B.exec
  have hb := B.bytes
  have hr := B.returns
  have hts := atoms_spec (ws := wsX6_isSlot) B.pre
  have hown : s.vm.findClass RX6 = some m.cls := findClass_of_methodNamed B.named
  have hlk := B.notSynchronized
  have X : CallFix p m c cX6_isSlot 1 s _ wsX6_isSlot RX6 := ⟨hx, hb, hml, hown, hts⟩
  have Z := zz_enter hC
  generalize va_A [] sz = A at Z ⊢
  have hl := lv_entry ([.int v]) (n := 1) (Nat.le_of_ble_eq_true rfl)
  rw [lg_entry_eq]
  generalize (lg_sl ([.int v]) ++ List.replicate (1 - (lg_sl ([.int v])).length) Slot.unset).toArray = ls at hl ⊢
  have hl : lv_has ls 1 [(0, .int v)] := hl
  refine lv_iload_n hx hb dX6_isSlot_0 rfl (lv_at hl 0 rfl) ?_
  refine lv_iconst (v := 0) hx hb dX6_isSlot_1 (by decide) ?_
  refine lv_iconst (v := 4) hx hb dX6_isSlot_2 (by decide) ?_
  refine zz_ci (WC := []) (TC := []) (WR := []) (TR := []) (k := 0) (n := 0) Z [] [] [] [] rfl rfl (by decide +kernel) (by decide +kernel) (by decide +kernel) rfl rfl (fun Zc => va_runS (As := [.int v, .int 0, .int 4]) (rest := []) X (c_within l D v 0 4 s.heap.size) (va_cwS 3 hts gX6_isSlot_X6_within rfl rfl rfl zh_X6_within ⟨Nat.le_of_ble_eq_true rfl, Nat.le_of_ble_eq_true rfl⟩) (zz_pS Zc) rfl rfl hl.1 rfl (lv_room (Nat.le_of_ble_eq_true rfl)) dX6_isSlot_3 ⟨Nat.le_of_ble_eq_true rfl, Nat.le_of_ble_eq_true rfl⟩) rfl rfl (fun r3 u1 H1 locs2 hw2 Z3 => ?_)
  clear Z
  subst r3
  have Z4 : zz_S D A s [] [] H1 locs2 := Z3
  clear Z3
  exact zz_zret X hr hlk Z4 (zz_wiN _ _ _) () rfl [] [] (by decide +kernel) rfl rfl dX6_isSlot_6

set_option maxHeartbeats 4000000 in
set_option maxRecDepth 100000 in
theorem c_isStall (l : Launch) (D : va_G) (x : Nat) (tx0 : Nat) (nb : Nat) (tb : Nat) (ib : Nat) (ah : Nat) (tp : Nat) (rd : Nat) (sh : Nat) (sl : Nat) (wt : Nat) (ntx : Nat) (nst : Nat) (nct : Nat) (k : Int32)  : zz_MI l yX6_isStall wsX6_isStall 1 22 0 0 D [.ref x, .int k] [(x, .inr (6, [.ref tx0, .ref nb, .ref tb, .ref ib, .ref ah, .ref tp, .ref rd, .ref sh, .ref sl, .ref wt, .int 0, .int 0, .int 0, .int 0, .int 0])), (nb, .inr (0, [.ref ntx, .ref nst, .ref nct, .int 0, .int 0, .int 3, .int 0, .int 0, .int 10, .int 0, .int 0, .int 0, .int 0, .int 1]))] [] (fun (r : Int32) (u : Unit) => r = 0) (fun (u : Unit) => [(x, .inr (6, [.ref tx0, .ref nb, .ref tb, .ref ib, .ref ah, .ref tp, .ref rd, .ref sh, .ref sl, .ref wt, .int 0, .int 0, .int 0, .int 0, .int 0])), (nb, .inr (0, [.ref ntx, .ref nst, .ref nct, .int 0, .int 0, .int 3, .int 0, .int 0, .int 10, .int 0, .int 0, .int 0, .int 0, .int 1]))]) (fun (u : Unit) => []) := by
  intro sz
  refine Met.ofW (cc := cX6_isStall) (maxL := 2) (ret := (some .boolean)) (by decide) rfl ?_
  intro p e s m args below meth c s₁ B hml hv
  obtain ⟨rfl, hC⟩ := hv
  have hx := B.exec
  have hb := B.bytes
  have hr := B.returns
  have hts := atoms_spec (ws := wsX6_isStall) B.pre
  have hown : s.vm.findClass RX6 = some m.cls := findClass_of_methodNamed B.named
  have hlk := B.notSynchronized
  have X : CallFix p m c cX6_isStall 2 s _ wsX6_isStall RX6 := ⟨hx, hb, hml, hown, hts⟩
  have Z := zz_enter hC
  generalize va_A [(x, .inr (6, [.ref tx0, .ref nb, .ref tb, .ref ib, .ref ah, .ref tp, .ref rd, .ref sh, .ref sl, .ref wt, .int 0, .int 0, .int 0, .int 0, .int 0])), (nb, .inr (0, [.ref ntx, .ref nst, .ref nct, .int 0, .int 0, .int 3, .int 0, .int 0, .int 10, .int 0, .int 0, .int 0, .int 0, .int 1]))] sz = A at Z ⊢
  have hl := lv_entry ([.ref x, .int k]) (n := 2) (Nat.le_of_ble_eq_true rfl)
  rw [lg_entry_eq]
  generalize (lg_sl ([.ref x, .int k]) ++ List.replicate (2 - (lg_sl ([.ref x, .int k])).length) Slot.unset).toArray = ls at hl ⊢
  have hl : lv_has ls 2 [(0, .ref x), (1, .int k)] := hl
  refine lv_iload_n hx hb dX6_isStall_0 rfl (lv_at hl 1 rfl) ?_
  refine lv_iconst (v := 0) hx hb dX6_isStall_1 (by decide) ?_
  refine lv_aload_n hx hb dX6_isStall_2 rfl (lv_at hl 0 rfl) ?_
  refine zz_get X Z 0 rfl rfl (fun w h => List.mem_cons_of_mem _ (List.mem_append_left _ (List.mem_append_right _ h))) 1 rfl (zz_m 1 rfl) rfl dX6_isStall_3 ?_
  refine zz_get X Z 1 rfl rfl (fun w h => List.mem_cons_of_mem _ (List.mem_append_right _ h)) 3 rfl (zz_m 2 rfl) rfl dX6_isStall_6 ?_
  refine lv_iconst (v := 1) hx hb dX6_isStall_9 (by decide) ?_
  refine lv_isub hx hb dX6_isStall_10 ?_
  refine zz_v (v := (-1)) (by decide) ?_
  refine zz_ci (WC := []) (TC := []) (WR := [(x, .inr (6, [.ref tx0, .ref nb, .ref tb, .ref ib, .ref ah, .ref tp, .ref rd, .ref sh, .ref sl, .ref wt, .int 0, .int 0, .int 0, .int 0, .int 0])), (nb, .inr (0, [.ref ntx, .ref nst, .ref nct, .int 0, .int 0, .int 3, .int 0, .int 0, .int 10, .int 0, .int 0, .int 0, .int 0, .int 1]))]) (TR := []) (k := 0) (n := 0) Z [] [0, 1] [] [] rfl rfl (by decide +kernel) (by decide +kernel) (by decide +kernel) rfl rfl (fun Zc => va_runS (As := [.int k, .int 0, .int (-1)]) (rest := []) X (c_within l D k 0 (-1) s.heap.size) (va_cwS 3 hts gX6_isStall_X6_within rfl rfl rfl zh_X6_within ⟨Nat.le_of_ble_eq_true rfl, Nat.le_of_ble_eq_true rfl⟩) (zz_pS Zc) rfl rfl hl.1 rfl (lv_room (Nat.le_of_ble_eq_true rfl)) dX6_isStall_11 ⟨Nat.le_of_ble_eq_true rfl, Nat.le_of_ble_eq_true rfl⟩) rfl rfl (fun r3 u1 H1 locs2 hw2 Z3 => ?_)
  clear Z
  subst r3
  have Z4 : zz_S D A s [(x, .inr (6, [.ref tx0, .ref nb, .ref tb, .ref ib, .ref ah, .ref tp, .ref rd, .ref sh, .ref sl, .ref wt, .int 0, .int 0, .int 0, .int 0, .int 0])), (nb, .inr (0, [.ref ntx, .ref nst, .ref nct, .int 0, .int 0, .int 3, .int 0, .int 0, .int 10, .int 0, .int 0, .int 0, .int 0, .int 1]))] [] H1 locs2 := Z3
  clear Z3
  refine zz_v (v := 0) (zz_wiF (zz_no k)) ?_
  exact zz_zret X hr hlk Z4 (by decide) () rfl [0, 1] [] (by decide +kernel) rfl rfl dX6_isStall_14

set_option maxHeartbeats 4000000 in
set_option maxRecDepth 100000 in
theorem c6_stall (l : Launch) (D : va_G) (x : Nat) (tx0 : Nat) (nb : Nat) (tb : Nat) (ib : Nat) (ah : Nat) (tp : Nat) (rd : Nat) (sh : Nat) (sl : Nat) (wt : Nat) (ntx : Nat) (nst : Nat) (nct : Nat) (kst : ClassId) (sf : (Nat → Option Nat)) (q0 : Nat) (s0 : Int32) (s1 : Int32) (s2 : Int32) (s3 : Int32) (kind : Int32) (place : Int32) (pay : Int32) (asf_0 : va_rf (sf 0) = .ref q0) : zz_MI l yX6_stall wsX6_stall 1 24 0 0 D [.ref x, .int kind, .int place, .int pay] [(x, .inr (6, [.ref tx0, .ref nb, .ref tb, .ref ib, .ref ah, .ref tp, .ref rd, .ref sh, .ref sl, .ref wt, .int 0, .int 0, .int 0, .int 0, .int 0])), (nb, .inr (0, [.ref ntx, .ref nst, .ref nct, .int 0, .int 0, .int 3, .int 0, .int 0, .int 10, .int 0, .int 0, .int 0, .int 0, .int 1])), (nst, .inl (kst, 9, .inr (.inr (.inr (.inr sf))))), (q0, .inr (4, [.int s0, .int s1, .int s2, .int s3]))] [(kst, .object RX4)] (fun (r : Int32) (u : Unit) => r = sp_stall kind place pay) (fun (u : Unit) => []) (fun (u : Unit) => []) := by
  intro sz
  refine Met.ofW (cc := cX6_stall) (maxL := 4) (ret := (some .int)) (by decide) rfl ?_
  intro p e s m args below meth c s₁ B hml hv
  obtain ⟨rfl, hC⟩ := hv
  have hx := B.exec
  have hb := B.bytes
  have hr := B.returns
  have hts := atoms_spec (ws := wsX6_stall) B.pre
  have hown : s.vm.findClass RX6 = some m.cls := findClass_of_methodNamed B.named
  have hlk := B.notSynchronized
  have X : CallFix p m c cX6_stall 4 s _ wsX6_stall RX6 := ⟨hx, hb, hml, hown, hts⟩
  have Z := zz_enter hC
  generalize va_A [(x, .inr (6, [.ref tx0, .ref nb, .ref tb, .ref ib, .ref ah, .ref tp, .ref rd, .ref sh, .ref sl, .ref wt, .int 0, .int 0, .int 0, .int 0, .int 0])), (nb, .inr (0, [.ref ntx, .ref nst, .ref nct, .int 0, .int 0, .int 3, .int 0, .int 0, .int 10, .int 0, .int 0, .int 0, .int 0, .int 1])), (nst, .inl (kst, 9, .inr (.inr (.inr (.inr sf))))), (q0, .inr (4, [.int s0, .int s1, .int s2, .int s3]))] sz = A at Z ⊢
  have hl := lv_entry ([.ref x, .int kind, .int place, .int pay]) (n := 4) (Nat.le_of_ble_eq_true rfl)
  rw [lg_entry_eq]
  generalize (lg_sl ([.ref x, .int kind, .int place, .int pay]) ++ List.replicate (4 - (lg_sl ([.ref x, .int kind, .int place, .int pay])).length) Slot.unset).toArray = ls at hl ⊢
  have hl : lv_has ls 4 [(0, .ref x), (1, .int kind), (2, .int place), (3, .int pay)] := hl
  refine lv_iload_n hx hb dX6_stall_0 rfl (lv_at hl 1 rfl) ?_
  refine lv_iconst (v := 0) hx hb dX6_stall_1 (by decide) ?_
  refine lv_iconst (v := 5) hx hb dX6_stall_2 (by decide) ?_
  refine zz_ci (WC := []) (TC := []) (WR := [(x, .inr (6, [.ref tx0, .ref nb, .ref tb, .ref ib, .ref ah, .ref tp, .ref rd, .ref sh, .ref sl, .ref wt, .int 0, .int 0, .int 0, .int 0, .int 0])), (nb, .inr (0, [.ref ntx, .ref nst, .ref nct, .int 0, .int 0, .int 3, .int 0, .int 0, .int 10, .int 0, .int 0, .int 0, .int 0, .int 1])), (nst, .inl (kst, 9, .inr (.inr (.inr (.inr sf))))), (q0, .inr (4, [.int s0, .int s1, .int s2, .int s3]))]) (TR := [(kst, .object RX4)]) (k := 0) (n := 0) Z [] [0, 1, 2, 3] [] [0] rfl rfl (by decide +kernel) (by decide +kernel) (by decide +kernel) rfl rfl (fun Zc => va_runS (As := [.int kind, .int 0, .int 5]) (rest := []) X (c_within l D kind 0 5 s.heap.size) (va_cwS 3 hts gX6_stall_X6_within rfl rfl rfl zh_X6_within ⟨Nat.le_of_ble_eq_true rfl, Nat.le_of_ble_eq_true rfl⟩) (zz_pS Zc) rfl rfl hl.1 rfl (lv_room (Nat.le_of_ble_eq_true rfl)) dX6_stall_3 ⟨Nat.le_of_ble_eq_true rfl, Nat.le_of_ble_eq_true rfl⟩) rfl rfl (fun r3 u1 H1 locs2 hw2 Z3 => ?_)
  clear Z
  subst r3
  have Z4 : zz_S D A s [(x, .inr (6, [.ref tx0, .ref nb, .ref tb, .ref ib, .ref ah, .ref tp, .ref rd, .ref sh, .ref sl, .ref wt, .int 0, .int 0, .int 0, .int 0, .int 0])), (nb, .inr (0, [.ref ntx, .ref nst, .ref nct, .int 0, .int 0, .int 3, .int 0, .int 0, .int 10, .int 0, .int 0, .int 0, .int 0, .int 1])), (nst, .inl (kst, 9, .inr (.inr (.inr (.inr sf))))), (q0, .inr (4, [.int s0, .int s1, .int s2, .int s3]))] [(kst, .object RX4)] H1 locs2 := Z3
  clear Z3
  by_cases w4 : 0 ≤ kind ∧ kind ≤ 5
  · refine zz_v (v := 1) (zz_wiT w4) ?_
    refine lv_if_eq (tgt := 29) hx hb dX6_stall_6 (by decide) (fun h => absurd h (by decide)) (fun _ => ?_)
    refine lv_iload_n hx hb dX6_stall_9 rfl (lv_at hl 2 rfl) ?_
    refine lv_iconst (v := 0) hx hb dX6_stall_10 (by decide) ?_
    refine lv_bipush (v := 11) hx hb dX6_stall_11 (by decide) ?_
    refine zz_ci (WC := []) (TC := []) (WR := [(x, .inr (6, [.ref tx0, .ref nb, .ref tb, .ref ib, .ref ah, .ref tp, .ref rd, .ref sh, .ref sl, .ref wt, .int 0, .int 0, .int 0, .int 0, .int 0])), (nb, .inr (0, [.ref ntx, .ref nst, .ref nct, .int 0, .int 0, .int 3, .int 0, .int 0, .int 10, .int 0, .int 0, .int 0, .int 0, .int 1])), (nst, .inl (kst, 9, .inr (.inr (.inr (.inr sf))))), (q0, .inr (4, [.int s0, .int s1, .int s2, .int s3]))]) (TR := [(kst, .object RX4)]) (k := 0) (n := 0) Z4 [] [0, 1, 2, 3] [] [0] rfl rfl (by decide +kernel) (by decide +kernel) (by decide +kernel) rfl rfl (fun Zc => va_runS (As := [.int place, .int 0, .int 11]) (rest := []) X (c_within l D place 0 11 H1.size) (va_cwS 3 hts gX6_stall_X6_within rfl rfl rfl zh_X6_within ⟨Nat.le_of_ble_eq_true rfl, Nat.le_of_ble_eq_true rfl⟩) (zz_pS Zc) rfl rfl hl.1 rfl (lv_room (Nat.le_of_ble_eq_true rfl)) dX6_stall_13 ⟨Nat.le_of_ble_eq_true rfl, Nat.le_of_ble_eq_true rfl⟩) rfl rfl (fun r7 u5 H5 locs6 hw6 Z7 => ?_)
    clear Z4
    subst r7
    have Z8 : zz_S D A s [(x, .inr (6, [.ref tx0, .ref nb, .ref tb, .ref ib, .ref ah, .ref tp, .ref rd, .ref sh, .ref sl, .ref wt, .int 0, .int 0, .int 0, .int 0, .int 0])), (nb, .inr (0, [.ref ntx, .ref nst, .ref nct, .int 0, .int 0, .int 3, .int 0, .int 0, .int 10, .int 0, .int 0, .int 0, .int 0, .int 1])), (nst, .inl (kst, 9, .inr (.inr (.inr (.inr sf))))), (q0, .inr (4, [.int s0, .int s1, .int s2, .int s3]))] [(kst, .object RX4)] H5 locs6 := Z7
    clear Z7
    by_cases w8 : 0 ≤ place ∧ place ≤ 11
    · refine zz_v (v := 1) (zz_wiT w8) ?_
      refine lv_if_eq (tgt := 29) hx hb dX6_stall_16 (by decide) (fun h => absurd h (by decide)) (fun _ => ?_)
      refine lv_iload_n hx hb dX6_stall_19 rfl (lv_at hl 3 rfl) ?_
      refine lv_iconst (v := 0) hx hb dX6_stall_20 (by decide) ?_
      refine lv_bipush (v := 99) hx hb dX6_stall_21 (by decide) ?_
      refine zz_ci (WC := []) (TC := []) (WR := [(x, .inr (6, [.ref tx0, .ref nb, .ref tb, .ref ib, .ref ah, .ref tp, .ref rd, .ref sh, .ref sl, .ref wt, .int 0, .int 0, .int 0, .int 0, .int 0])), (nb, .inr (0, [.ref ntx, .ref nst, .ref nct, .int 0, .int 0, .int 3, .int 0, .int 0, .int 10, .int 0, .int 0, .int 0, .int 0, .int 1])), (nst, .inl (kst, 9, .inr (.inr (.inr (.inr sf))))), (q0, .inr (4, [.int s0, .int s1, .int s2, .int s3]))]) (TR := [(kst, .object RX4)]) (k := 0) (n := 0) Z8 [] [0, 1, 2, 3] [] [0] rfl rfl (by decide +kernel) (by decide +kernel) (by decide +kernel) rfl rfl (fun Zc => va_runS (As := [.int pay, .int 0, .int 99]) (rest := []) X (c_within l D pay 0 99 H5.size) (va_cwS 3 hts gX6_stall_X6_within rfl rfl rfl zh_X6_within ⟨Nat.le_of_ble_eq_true rfl, Nat.le_of_ble_eq_true rfl⟩) (zz_pS Zc) rfl rfl hl.1 rfl (lv_room (Nat.le_of_ble_eq_true rfl)) dX6_stall_23 ⟨Nat.le_of_ble_eq_true rfl, Nat.le_of_ble_eq_true rfl⟩) rfl rfl (fun r11 u9 H9 locs10 hw10 Z11 => ?_)
      clear Z8
      subst r11
      have Z12 : zz_S D A s [(x, .inr (6, [.ref tx0, .ref nb, .ref tb, .ref ib, .ref ah, .ref tp, .ref rd, .ref sh, .ref sl, .ref wt, .int 0, .int 0, .int 0, .int 0, .int 0])), (nb, .inr (0, [.ref ntx, .ref nst, .ref nct, .int 0, .int 0, .int 3, .int 0, .int 0, .int 10, .int 0, .int 0, .int 0, .int 0, .int 1])), (nst, .inl (kst, 9, .inr (.inr (.inr (.inr sf))))), (q0, .inr (4, [.int s0, .int s1, .int s2, .int s3]))] [(kst, .object RX4)] H9 locs10 := Z11
      clear Z11
      by_cases w12 : 0 ≤ pay ∧ pay ≤ 99
      · refine zz_v (v := 1) (zz_wiT w12) ?_
        refine lv_if_ne (tgt := 32) hx hb dX6_stall_26 (by decide) (fun _ => ?_) (fun h => absurd h (by decide))
        refine lv_aload_n hx hb dX6_stall_32 rfl (lv_at hl 0 rfl) ?_
        refine zz_get X Z12 0 rfl rfl (fun w h => List.mem_cons_of_mem _ (List.mem_append_left _ (List.mem_append_left _ (List.mem_append_right _ h)))) 1 rfl (zz_m 2 rfl) rfl dX6_stall_33 ?_
        refine zz_get X Z12 1 rfl rfl (fun w h => List.mem_cons_of_mem _ (List.mem_append_left _ (List.mem_append_right _ h))) 3 rfl (zz_m 3 rfl) rfl dX6_stall_36 ?_
        refine lv_bipush (v := 9) hx hb dX6_stall_39 (by decide) ?_
        refine lv_icmp_lt (tgt := 47) hx hb dX6_stall_41 (by decide) (fun _ => ?_) (fun h => absurd (by decide) h)
        refine lv_aload_n hx hb dX6_stall_47 rfl (lv_at hl 0 rfl) ?_
        refine zz_get X Z12 0 rfl rfl (fun w h => List.mem_cons_of_mem _ (List.mem_append_left _ (List.mem_append_left _ (List.mem_append_right _ h)))) 1 rfl (zz_m 2 rfl) rfl dX6_stall_48 ?_
        refine lv_iload_n hx hb dX6_stall_51 rfl (lv_at hl 1 rfl) ?_
        refine lv_iload_n hx hb dX6_stall_52 rfl (lv_at hl 2 rfl) ?_
        refine lv_iload_n hx hb dX6_stall_53 rfl (lv_at hl 3 rfl) ?_
        refine zz_ci (WC := [(nb, .inr (0, [.ref ntx, .ref nst, .ref nct, .int 0, .int 0, .int 3, .int 0, .int 0, .int 10, .int 0, .int 0, .int 0, .int 0, .int 1])), (nst, .inl (kst, 9, .inr (.inr (.inr (.inr sf))))), (q0, .inr (4, [.int s0, .int s1, .int s2, .int s3]))]) (TC := [(kst, .object RX4)]) (WR := [(x, .inr (6, [.ref tx0, .ref nb, .ref tb, .ref ib, .ref ah, .ref tp, .ref rd, .ref sh, .ref sl, .ref wt, .int 0, .int 0, .int 0, .int 0, .int 0]))]) (TR := []) (k := 0) (n := 0) Z12 [1, 2, 3] [0] [0] [] rfl rfl (by decide +kernel) (by decide +kernel) (by decide +kernel) rfl rfl (fun Zc => va_runV (As := [.int kind, .int place, .int pay]) (rest := []) X (c_open l D nb ntx nst nct 0 0 3 0 0 10 0 0 0 0 1 kst sf q0 s0 s1 s2 s3 kind place pay (by decide) (zz_in 0 9 rfl) asf_0 H9.size) (cwV 3 hts gX6_stall_X0_open rfl rfl rfl ⟨rfl, zh_X0_open⟩ ⟨Nat.le_of_ble_eq_true rfl, Nat.le_of_ble_eq_true rfl⟩) (zz_pV (ci := 0) Zc 0 rfl rfl) rfl rfl hl.1 rfl (lv_room (Nat.le_of_ble_eq_true rfl)) dX6_stall_54 ⟨Nat.le_of_ble_eq_true rfl, Nat.le_of_ble_eq_true rfl⟩) rfl rfl (fun r15 u13 H13 locs14 hw14 Z15 => ?_)
        clear Z12
        have hw14 : r15 = 0 := hw14.trans (by decide)
        subst r15
        have Z16 : zz_S D A s [(x, .inr (6, [.ref tx0, .ref nb, .ref tb, .ref ib, .ref ah, .ref tp, .ref rd, .ref sh, .ref sl, .ref wt, .int 0, .int 0, .int 0, .int 0, .int 0])), (nb, .inr (0, [.ref ntx, .ref nst, .ref nct, .int 1, .int 0, .int 3, .int 0, .int 0, .int 10, .int 0, .int 0, .int 0, .int 0, .int 1])), (nst, .inl (kst, 9, .inr (.inr (.inr (.inr sf))))), (q0, .inr (4, [.int kind, .int place, .int 100, .int pay]))] [(kst, .object RX4)] H13 locs14 := Z15
        clear Z15
        exact zz_iret X hr hlk Z16 () (by simp [sp_stall, w4, w8, w12]) [] [] (by decide +kernel) rfl rfl dX6_stall_57
      · refine zz_v (v := 0) (zz_wiF w12) ?_
        refine lv_if_ne (tgt := 32) hx hb dX6_stall_26 (by decide) (fun h => absurd (by decide) h) (fun _ => ?_)
        refine lv_ldc (v := (-1000000001)) hx hb hown (hts _ (zz_m 1 rfl)) dX6_stall_29 ?_
        exact zz_iret X hr hlk Z12 () (by simp [sp_stall, w4, w8, w12]) [] [] (by decide +kernel) rfl rfl dX6_stall_31
    · refine zz_v (v := 0) (zz_wiF w8) ?_
      refine lv_if_eq (tgt := 29) hx hb dX6_stall_16 (by decide) (fun _ => ?_) (fun h => absurd (by decide) h)
      refine lv_ldc (v := (-1000000001)) hx hb hown (hts _ (zz_m 1 rfl)) dX6_stall_29 ?_
      exact zz_iret X hr hlk Z8 () (by simp [sp_stall, w4, w8]) [] [] (by decide +kernel) rfl rfl dX6_stall_31
  · refine zz_v (v := 0) (zz_wiF w4) ?_
    refine lv_if_eq (tgt := 29) hx hb dX6_stall_6 (by decide) (fun _ => ?_) (fun h => absurd (by decide) h)
    refine lv_ldc (v := (-1000000001)) hx hb hown (hts _ (zz_m 1 rfl)) dX6_stall_29 ?_
    exact zz_iret X hr hlk Z4 () (by simp [sp_stall, w4]) [] [] (by decide +kernel) rfl rfl dX6_stall_31

set_option maxHeartbeats 4000000 in
set_option maxRecDepth 100000 in
theorem c6_told (l : Launch) (D : va_G) (x : Nat) (tx0 : Nat) (nb : Nat) (tb : Nat) (ib : Nat) (ah : Nat) (tp : Nat) (rd : Nat) (sh : Nat) (sl : Nat) (wt : Nat) (ntx : Nat) (nst : Nat) (nct : Nat) (stall : Int32) (what : Int32)  : zz_MI l yX6_told wsX6_told 2 43 0 0 D [.ref x, .int stall, .int what] [(x, .inr (6, [.ref tx0, .ref nb, .ref tb, .ref ib, .ref ah, .ref tp, .ref rd, .ref sh, .ref sl, .ref wt, .int 0, .int 0, .int 0, .int 0, .int 0])), (nb, .inr (0, [.ref ntx, .ref nst, .ref nct, .int 0, .int 0, .int 3, .int 0, .int 0, .int 10, .int 0, .int 0, .int 0, .int 0, .int 1]))] [] (fun (r : Int32) (u : Unit) => r = (-1000000001)) (fun (u : Unit) => []) (fun (u : Unit) => []) := by
  intro sz
  refine Met.ofW (cc := cX6_told) (maxL := 4) (ret := (some .int)) (by decide) rfl ?_
  intro p e s m args below meth c s₁ B hml hv
  obtain ⟨rfl, hC⟩ := hv
  have hx := B.exec
  have hb := B.bytes
  have hr := B.returns
  have hts := atoms_spec (ws := wsX6_told) B.pre
  have hown : s.vm.findClass RX6 = some m.cls := findClass_of_methodNamed B.named
  have hlk := B.notSynchronized
  have X : CallFix p m c cX6_told 4 s _ wsX6_told RX6 := ⟨hx, hb, hml, hown, hts⟩
  have Z := zz_enter hC
  generalize va_A [(x, .inr (6, [.ref tx0, .ref nb, .ref tb, .ref ib, .ref ah, .ref tp, .ref rd, .ref sh, .ref sl, .ref wt, .int 0, .int 0, .int 0, .int 0, .int 0])), (nb, .inr (0, [.ref ntx, .ref nst, .ref nct, .int 0, .int 0, .int 3, .int 0, .int 0, .int 10, .int 0, .int 0, .int 0, .int 0, .int 1]))] sz = A at Z ⊢
  have hl := lv_entry ([.ref x, .int stall, .int what]) (n := 4) (Nat.le_of_ble_eq_true rfl)
  rw [lg_entry_eq]
  generalize (lg_sl ([.ref x, .int stall, .int what]) ++ List.replicate (4 - (lg_sl ([.ref x, .int stall, .int what])).length) Slot.unset).toArray = ls at hl ⊢
  have hl : lv_has ls 4 [(0, .ref x), (1, .int stall), (2, .int what)] := hl
  refine lv_aload_n hx hb dX6_told_0 rfl (lv_at hl 0 rfl) ?_
  refine lv_iload_n hx hb dX6_told_1 rfl (lv_at hl 1 rfl) ?_
  refine zz_ci (WC := [(x, .inr (6, [.ref tx0, .ref nb, .ref tb, .ref ib, .ref ah, .ref tp, .ref rd, .ref sh, .ref sl, .ref wt, .int 0, .int 0, .int 0, .int 0, .int 0])), (nb, .inr (0, [.ref ntx, .ref nst, .ref nct, .int 0, .int 0, .int 3, .int 0, .int 0, .int 10, .int 0, .int 0, .int 0, .int 0, .int 1]))]) (TC := []) (WR := []) (TR := []) (k := 0) (n := 0) Z [0, 1] [] [] [] rfl rfl (by decide +kernel) (by decide +kernel) (by decide +kernel) rfl rfl (fun Zc => va_runV (As := [.int stall]) (rest := []) X (c_isStall l D x tx0 nb tb ib ah tp rd sh sl wt ntx nst nct stall s.heap.size) (cwV 1 hts gX6_told_X6_isStall rfl rfl rfl ⟨rfl, zh_X6_isStall⟩ ⟨Nat.le_of_ble_eq_true rfl, Nat.le_of_ble_eq_true rfl⟩) (zz_pV (ci := 6) Zc 0 rfl rfl) rfl rfl hl.1 rfl (lv_room (Nat.le_of_ble_eq_true rfl)) dX6_told_2 ⟨Nat.le_of_ble_eq_true rfl, Nat.le_of_ble_eq_true rfl⟩) rfl rfl (fun r3 u1 H1 locs2 hw2 Z3 => ?_)
  clear Z
  have hw2 : r3 = 0 := hw2.trans (by decide)
  subst r3
  have Z4 : zz_S D A s [(x, .inr (6, [.ref tx0, .ref nb, .ref tb, .ref ib, .ref ah, .ref tp, .ref rd, .ref sh, .ref sl, .ref wt, .int 0, .int 0, .int 0, .int 0, .int 0])), (nb, .inr (0, [.ref ntx, .ref nst, .ref nct, .int 0, .int 0, .int 3, .int 0, .int 0, .int 10, .int 0, .int 0, .int 0, .int 0, .int 1]))] [] H1 locs2 := Z3
  clear Z3
  refine lv_if_ne (tgt := 11) hx hb dX6_told_5 (by decide) (fun h => absurd (by decide) h) (fun _ => ?_)
  refine lv_ldc (v := (-1000000001)) hx hb hown (hts _ (zz_m 1 rfl)) dX6_told_8 ?_
  exact zz_iret X hr hlk Z4 () rfl [] [] (by decide +kernel) rfl rfl dX6_told_10

set_option maxHeartbeats 4000000 in
set_option maxRecDepth 100000 in
theorem c6_as (l : Launch) (D : va_G) (x : Nat) (tx0 : Nat) (nb : Nat) (tb : Nat) (ib : Nat) (ah : Nat) (tp : Nat) (rd : Nat) (sh : Nat) (sl : Nat) (wt : Nat) (ntx : Nat) (nst : Nat) (nct : Nat) (stall : Int32) (kind : Int32)  : zz_MI l yX6_as wsX6_as 2 43 0 0 D [.ref x, .int stall, .int kind] [(x, .inr (6, [.ref tx0, .ref nb, .ref tb, .ref ib, .ref ah, .ref tp, .ref rd, .ref sh, .ref sl, .ref wt, .int 0, .int 0, .int 0, .int 0, .int 0])), (nb, .inr (0, [.ref ntx, .ref nst, .ref nct, .int 0, .int 0, .int 3, .int 0, .int 0, .int 10, .int 0, .int 0, .int 0, .int 0, .int 1]))] [] (fun (r : Int32) (u : Unit) => r = (-1000000001)) (fun (u : Unit) => []) (fun (u : Unit) => []) := by
  intro sz
  refine Met.ofW (cc := cX6_as) (maxL := 4) (ret := (some .int)) (by decide) rfl ?_
  intro p e s m args below meth c s₁ B hml hv
  obtain ⟨rfl, hC⟩ := hv
  have hx := B.exec
  have hb := B.bytes
  have hr := B.returns
  have hts := atoms_spec (ws := wsX6_as) B.pre
  have hown : s.vm.findClass RX6 = some m.cls := findClass_of_methodNamed B.named
  have hlk := B.notSynchronized
  have X : CallFix p m c cX6_as 4 s _ wsX6_as RX6 := ⟨hx, hb, hml, hown, hts⟩
  have Z := zz_enter hC
  generalize va_A [(x, .inr (6, [.ref tx0, .ref nb, .ref tb, .ref ib, .ref ah, .ref tp, .ref rd, .ref sh, .ref sl, .ref wt, .int 0, .int 0, .int 0, .int 0, .int 0])), (nb, .inr (0, [.ref ntx, .ref nst, .ref nct, .int 0, .int 0, .int 3, .int 0, .int 0, .int 10, .int 0, .int 0, .int 0, .int 0, .int 1]))] sz = A at Z ⊢
  have hl := lv_entry ([.ref x, .int stall, .int kind]) (n := 4) (Nat.le_of_ble_eq_true rfl)
  rw [lg_entry_eq]
  generalize (lg_sl ([.ref x, .int stall, .int kind]) ++ List.replicate (4 - (lg_sl ([.ref x, .int stall, .int kind])).length) Slot.unset).toArray = ls at hl ⊢
  have hl : lv_has ls 4 [(0, .ref x), (1, .int stall), (2, .int kind)] := hl
  refine lv_aload_n hx hb dX6_as_0 rfl (lv_at hl 0 rfl) ?_
  refine lv_iload_n hx hb dX6_as_1 rfl (lv_at hl 1 rfl) ?_
  refine zz_ci (WC := [(x, .inr (6, [.ref tx0, .ref nb, .ref tb, .ref ib, .ref ah, .ref tp, .ref rd, .ref sh, .ref sl, .ref wt, .int 0, .int 0, .int 0, .int 0, .int 0])), (nb, .inr (0, [.ref ntx, .ref nst, .ref nct, .int 0, .int 0, .int 3, .int 0, .int 0, .int 10, .int 0, .int 0, .int 0, .int 0, .int 1]))]) (TC := []) (WR := []) (TR := []) (k := 0) (n := 0) Z [0, 1] [] [] [] rfl rfl (by decide +kernel) (by decide +kernel) (by decide +kernel) rfl rfl (fun Zc => va_runV (As := [.int stall]) (rest := []) X (c_isStall l D x tx0 nb tb ib ah tp rd sh sl wt ntx nst nct stall s.heap.size) (cwV 1 hts gX6_as_X6_isStall rfl rfl rfl ⟨rfl, zh_X6_isStall⟩ ⟨Nat.le_of_ble_eq_true rfl, Nat.le_of_ble_eq_true rfl⟩) (zz_pV (ci := 6) Zc 0 rfl rfl) rfl rfl hl.1 rfl (lv_room (Nat.le_of_ble_eq_true rfl)) dX6_as_2 ⟨Nat.le_of_ble_eq_true rfl, Nat.le_of_ble_eq_true rfl⟩) rfl rfl (fun r3 u1 H1 locs2 hw2 Z3 => ?_)
  clear Z
  have hw2 : r3 = 0 := hw2.trans (by decide)
  subst r3
  have Z4 : zz_S D A s [(x, .inr (6, [.ref tx0, .ref nb, .ref tb, .ref ib, .ref ah, .ref tp, .ref rd, .ref sh, .ref sl, .ref wt, .int 0, .int 0, .int 0, .int 0, .int 0])), (nb, .inr (0, [.ref ntx, .ref nst, .ref nct, .int 0, .int 0, .int 3, .int 0, .int 0, .int 10, .int 0, .int 0, .int 0, .int 0, .int 1]))] [] H1 locs2 := Z3
  clear Z3
  refine lv_if_eq (tgt := 17) hx hb dX6_as_5 (by decide) (fun _ => ?_) (fun h => absurd (by decide) h)
  refine lv_ldc (v := (-1000000001)) hx hb hown (hts _ (zz_m 1 rfl)) dX6_as_17 ?_
  exact zz_iret X hr hlk Z4 () rfl [] [] (by decide +kernel) rfl rfl dX6_as_19

set_option maxHeartbeats 4000000 in
set_option maxRecDepth 100000 in
theorem c6_turns (l : Launch) (D : va_G) (x : Nat) (tx0 : Nat) (nb : Nat) (tb : Nat) (ib : Nat) (ah : Nat) (tp : Nat) (rd : Nat) (sh : Nat) (sl : Nat) (wt : Nat) (ntx : Nat) (nst : Nat) (nct : Nat) (stall : Int32) (kind : Int32)  : zz_MI l yX6_turns wsX6_turns 2 43 0 0 D [.ref x, .int stall, .int kind] [(x, .inr (6, [.ref tx0, .ref nb, .ref tb, .ref ib, .ref ah, .ref tp, .ref rd, .ref sh, .ref sl, .ref wt, .int 0, .int 0, .int 0, .int 0, .int 0])), (nb, .inr (0, [.ref ntx, .ref nst, .ref nct, .int 0, .int 0, .int 3, .int 0, .int 0, .int 10, .int 0, .int 0, .int 0, .int 0, .int 1]))] [] (fun (r : Int32) (u : Unit) => r = (-1000000001)) (fun (u : Unit) => []) (fun (u : Unit) => []) := by
  intro sz
  refine Met.ofW (cc := cX6_turns) (maxL := 5) (ret := (some .int)) (by decide) rfl ?_
  intro p e s m args below meth c s₁ B hml hv
  obtain ⟨rfl, hC⟩ := hv
  have hx := B.exec
  have hb := B.bytes
  have hr := B.returns
  have hts := atoms_spec (ws := wsX6_turns) B.pre
  have hown : s.vm.findClass RX6 = some m.cls := findClass_of_methodNamed B.named
  have hlk := B.notSynchronized
  have X : CallFix p m c cX6_turns 5 s _ wsX6_turns RX6 := ⟨hx, hb, hml, hown, hts⟩
  have Z := zz_enter hC
  generalize va_A [(x, .inr (6, [.ref tx0, .ref nb, .ref tb, .ref ib, .ref ah, .ref tp, .ref rd, .ref sh, .ref sl, .ref wt, .int 0, .int 0, .int 0, .int 0, .int 0])), (nb, .inr (0, [.ref ntx, .ref nst, .ref nct, .int 0, .int 0, .int 3, .int 0, .int 0, .int 10, .int 0, .int 0, .int 0, .int 0, .int 1]))] sz = A at Z ⊢
  have hl := lv_entry ([.ref x, .int stall, .int kind]) (n := 5) (Nat.le_of_ble_eq_true rfl)
  rw [lg_entry_eq]
  generalize (lg_sl ([.ref x, .int stall, .int kind]) ++ List.replicate (5 - (lg_sl ([.ref x, .int stall, .int kind])).length) Slot.unset).toArray = ls at hl ⊢
  have hl : lv_has ls 5 [(0, .ref x), (1, .int stall), (2, .int kind)] := hl
  refine lv_aload_n hx hb dX6_turns_0 rfl (lv_at hl 0 rfl) ?_
  refine lv_iload_n hx hb dX6_turns_1 rfl (lv_at hl 1 rfl) ?_
  refine zz_ci (WC := [(x, .inr (6, [.ref tx0, .ref nb, .ref tb, .ref ib, .ref ah, .ref tp, .ref rd, .ref sh, .ref sl, .ref wt, .int 0, .int 0, .int 0, .int 0, .int 0])), (nb, .inr (0, [.ref ntx, .ref nst, .ref nct, .int 0, .int 0, .int 3, .int 0, .int 0, .int 10, .int 0, .int 0, .int 0, .int 0, .int 1]))]) (TC := []) (WR := []) (TR := []) (k := 0) (n := 0) Z [0, 1] [] [] [] rfl rfl (by decide +kernel) (by decide +kernel) (by decide +kernel) rfl rfl (fun Zc => va_runV (As := [.int stall]) (rest := []) X (c_isStall l D x tx0 nb tb ib ah tp rd sh sl wt ntx nst nct stall s.heap.size) (cwV 1 hts gX6_turns_X6_isStall rfl rfl rfl ⟨rfl, zh_X6_isStall⟩ ⟨Nat.le_of_ble_eq_true rfl, Nat.le_of_ble_eq_true rfl⟩) (zz_pV (ci := 6) Zc 0 rfl rfl) rfl rfl hl.1 rfl (lv_room (Nat.le_of_ble_eq_true rfl)) dX6_turns_2 ⟨Nat.le_of_ble_eq_true rfl, Nat.le_of_ble_eq_true rfl⟩) rfl rfl (fun r3 u1 H1 locs2 hw2 Z3 => ?_)
  clear Z
  have hw2 : r3 = 0 := hw2.trans (by decide)
  subst r3
  have Z4 : zz_S D A s [(x, .inr (6, [.ref tx0, .ref nb, .ref tb, .ref ib, .ref ah, .ref tp, .ref rd, .ref sh, .ref sl, .ref wt, .int 0, .int 0, .int 0, .int 0, .int 0])), (nb, .inr (0, [.ref ntx, .ref nst, .ref nct, .int 0, .int 0, .int 3, .int 0, .int 0, .int 10, .int 0, .int 0, .int 0, .int 0, .int 1]))] [] H1 locs2 := Z3
  clear Z3
  refine lv_if_eq (tgt := 17) hx hb dX6_turns_5 (by decide) (fun _ => ?_) (fun h => absurd (by decide) h)
  refine lv_ldc (v := (-1000000001)) hx hb hown (hts _ (zz_m 1 rfl)) dX6_turns_17 ?_
  exact zz_iret X hr hlk Z4 () rfl [] [] (by decide +kernel) rfl rfl dX6_turns_19

set_option maxHeartbeats 4000000 in
set_option maxRecDepth 100000 in
theorem c6_set (l : Launch) (D : va_G) (x : Nat) (tx0 : Nat) (nb : Nat) (tb : Nat) (ib : Nat) (ah : Nat) (tp : Nat) (rd : Nat) (sh : Nat) (sl : Nat) (wt : Nat) (ntx : Nat) (nst : Nat) (nct : Nat) (stall : Int32) (what : Int32) (v : Int32)  : zz_MI l yX6_set wsX6_set 2 43 0 0 D [.ref x, .int stall, .int what, .int v] [(x, .inr (6, [.ref tx0, .ref nb, .ref tb, .ref ib, .ref ah, .ref tp, .ref rd, .ref sh, .ref sl, .ref wt, .int 0, .int 0, .int 0, .int 0, .int 0])), (nb, .inr (0, [.ref ntx, .ref nst, .ref nct, .int 0, .int 0, .int 3, .int 0, .int 0, .int 10, .int 0, .int 0, .int 0, .int 0, .int 1]))] [] (fun (r : Int32) (u : Unit) => r = (-1000000001)) (fun (u : Unit) => []) (fun (u : Unit) => []) := by
  intro sz
  refine Met.ofW (cc := cX6_set) (maxL := 4) (ret := (some .int)) (by decide) rfl ?_
  intro p e s m args below meth c s₁ B hml hv
  obtain ⟨rfl, hC⟩ := hv
  have hx := B.exec
  have hb := B.bytes
  have hr := B.returns
  have hts := atoms_spec (ws := wsX6_set) B.pre
  have hown : s.vm.findClass RX6 = some m.cls := findClass_of_methodNamed B.named
  have hlk := B.notSynchronized
  have X : CallFix p m c cX6_set 4 s _ wsX6_set RX6 := ⟨hx, hb, hml, hown, hts⟩
  have Z := zz_enter hC
  generalize va_A [(x, .inr (6, [.ref tx0, .ref nb, .ref tb, .ref ib, .ref ah, .ref tp, .ref rd, .ref sh, .ref sl, .ref wt, .int 0, .int 0, .int 0, .int 0, .int 0])), (nb, .inr (0, [.ref ntx, .ref nst, .ref nct, .int 0, .int 0, .int 3, .int 0, .int 0, .int 10, .int 0, .int 0, .int 0, .int 0, .int 1]))] sz = A at Z ⊢
  have hl := lv_entry ([.ref x, .int stall, .int what, .int v]) (n := 4) (Nat.le_of_ble_eq_true rfl)
  rw [lg_entry_eq]
  generalize (lg_sl ([.ref x, .int stall, .int what, .int v]) ++ List.replicate (4 - (lg_sl ([.ref x, .int stall, .int what, .int v])).length) Slot.unset).toArray = ls at hl ⊢
  have hl : lv_has ls 4 [(0, .ref x), (1, .int stall), (2, .int what), (3, .int v)] := hl
  refine lv_aload_n hx hb dX6_set_0 rfl (lv_at hl 0 rfl) ?_
  refine lv_iload_n hx hb dX6_set_1 rfl (lv_at hl 1 rfl) ?_
  refine zz_ci (WC := [(x, .inr (6, [.ref tx0, .ref nb, .ref tb, .ref ib, .ref ah, .ref tp, .ref rd, .ref sh, .ref sl, .ref wt, .int 0, .int 0, .int 0, .int 0, .int 0])), (nb, .inr (0, [.ref ntx, .ref nst, .ref nct, .int 0, .int 0, .int 3, .int 0, .int 0, .int 10, .int 0, .int 0, .int 0, .int 0, .int 1]))]) (TC := []) (WR := []) (TR := []) (k := 0) (n := 0) Z [0, 1] [] [] [] rfl rfl (by decide +kernel) (by decide +kernel) (by decide +kernel) rfl rfl (fun Zc => va_runV (As := [.int stall]) (rest := []) X (c_isStall l D x tx0 nb tb ib ah tp rd sh sl wt ntx nst nct stall s.heap.size) (cwV 1 hts gX6_set_X6_isStall rfl rfl rfl ⟨rfl, zh_X6_isStall⟩ ⟨Nat.le_of_ble_eq_true rfl, Nat.le_of_ble_eq_true rfl⟩) (zz_pV (ci := 6) Zc 0 rfl rfl) rfl rfl hl.1 rfl (lv_room (Nat.le_of_ble_eq_true rfl)) dX6_set_2 ⟨Nat.le_of_ble_eq_true rfl, Nat.le_of_ble_eq_true rfl⟩) rfl rfl (fun r3 u1 H1 locs2 hw2 Z3 => ?_)
  clear Z
  have hw2 : r3 = 0 := hw2.trans (by decide)
  subst r3
  have Z4 : zz_S D A s [(x, .inr (6, [.ref tx0, .ref nb, .ref tb, .ref ib, .ref ah, .ref tp, .ref rd, .ref sh, .ref sl, .ref wt, .int 0, .int 0, .int 0, .int 0, .int 0])), (nb, .inr (0, [.ref ntx, .ref nst, .ref nct, .int 0, .int 0, .int 3, .int 0, .int 0, .int 10, .int 0, .int 0, .int 0, .int 0, .int 1]))] [] H1 locs2 := Z3
  clear Z3
  refine lv_if_ne (tgt := 11) hx hb dX6_set_5 (by decide) (fun h => absurd (by decide) h) (fun _ => ?_)
  refine lv_ldc (v := (-1000000001)) hx hb hown (hts _ (zz_m 1 rfl)) dX6_set_8 ?_
  exact zz_iret X hr hlk Z4 () rfl [] [] (by decide +kernel) rfl rfl dX6_set_10

set_option maxHeartbeats 4000000 in
set_option maxRecDepth 100000 in
theorem c6_goods (l : Launch) (D : va_G) (x : Nat) (tx0 : Nat) (nb : Nat) (tb : Nat) (ib : Nat) (ah : Nat) (tp : Nat) (rd : Nat) (sh : Nat) (sl : Nat) (wt : Nat) (ntx : Nat) (nst : Nat) (nct : Nat) (stall : Int32) (n : Int32)  : zz_MI l yX6_goods wsX6_goods 2 43 0 0 D [.ref x, .int stall, .int n] [(x, .inr (6, [.ref tx0, .ref nb, .ref tb, .ref ib, .ref ah, .ref tp, .ref rd, .ref sh, .ref sl, .ref wt, .int 0, .int 0, .int 0, .int 0, .int 0])), (nb, .inr (0, [.ref ntx, .ref nst, .ref nct, .int 0, .int 0, .int 3, .int 0, .int 0, .int 10, .int 0, .int 0, .int 0, .int 0, .int 1]))] [] (fun (r : Int32) (u : Unit) => r = (-1000000001)) (fun (u : Unit) => []) (fun (u : Unit) => []) := by
  intro sz
  refine Met.ofW (cc := cX6_goods) (maxL := 3) (ret := (some .int)) (by decide) rfl ?_
  intro p e s m args below meth c s₁ B hml hv
  obtain ⟨rfl, hC⟩ := hv
  have hx := B.exec
  have hb := B.bytes
  have hr := B.returns
  have hts := atoms_spec (ws := wsX6_goods) B.pre
  have hown : s.vm.findClass RX6 = some m.cls := findClass_of_methodNamed B.named
  have hlk := B.notSynchronized
  have X : CallFix p m c cX6_goods 3 s _ wsX6_goods RX6 := ⟨hx, hb, hml, hown, hts⟩
  have Z := zz_enter hC
  generalize va_A [(x, .inr (6, [.ref tx0, .ref nb, .ref tb, .ref ib, .ref ah, .ref tp, .ref rd, .ref sh, .ref sl, .ref wt, .int 0, .int 0, .int 0, .int 0, .int 0])), (nb, .inr (0, [.ref ntx, .ref nst, .ref nct, .int 0, .int 0, .int 3, .int 0, .int 0, .int 10, .int 0, .int 0, .int 0, .int 0, .int 1]))] sz = A at Z ⊢
  have hl := lv_entry ([.ref x, .int stall, .int n]) (n := 3) (Nat.le_of_ble_eq_true rfl)
  rw [lg_entry_eq]
  generalize (lg_sl ([.ref x, .int stall, .int n]) ++ List.replicate (3 - (lg_sl ([.ref x, .int stall, .int n])).length) Slot.unset).toArray = ls at hl ⊢
  have hl : lv_has ls 3 [(0, .ref x), (1, .int stall), (2, .int n)] := hl
  refine lv_aload_n hx hb dX6_goods_0 rfl (lv_at hl 0 rfl) ?_
  refine lv_iload_n hx hb dX6_goods_1 rfl (lv_at hl 1 rfl) ?_
  refine zz_ci (WC := [(x, .inr (6, [.ref tx0, .ref nb, .ref tb, .ref ib, .ref ah, .ref tp, .ref rd, .ref sh, .ref sl, .ref wt, .int 0, .int 0, .int 0, .int 0, .int 0])), (nb, .inr (0, [.ref ntx, .ref nst, .ref nct, .int 0, .int 0, .int 3, .int 0, .int 0, .int 10, .int 0, .int 0, .int 0, .int 0, .int 1]))]) (TC := []) (WR := []) (TR := []) (k := 0) (n := 0) Z [0, 1] [] [] [] rfl rfl (by decide +kernel) (by decide +kernel) (by decide +kernel) rfl rfl (fun Zc => va_runV (As := [.int stall]) (rest := []) X (c_isStall l D x tx0 nb tb ib ah tp rd sh sl wt ntx nst nct stall s.heap.size) (cwV 1 hts gX6_goods_X6_isStall rfl rfl rfl ⟨rfl, zh_X6_isStall⟩ ⟨Nat.le_of_ble_eq_true rfl, Nat.le_of_ble_eq_true rfl⟩) (zz_pV (ci := 6) Zc 0 rfl rfl) rfl rfl hl.1 rfl (lv_room (Nat.le_of_ble_eq_true rfl)) dX6_goods_2 ⟨Nat.le_of_ble_eq_true rfl, Nat.le_of_ble_eq_true rfl⟩) rfl rfl (fun r3 u1 H1 locs2 hw2 Z3 => ?_)
  clear Z
  have hw2 : r3 = 0 := hw2.trans (by decide)
  subst r3
  have Z4 : zz_S D A s [(x, .inr (6, [.ref tx0, .ref nb, .ref tb, .ref ib, .ref ah, .ref tp, .ref rd, .ref sh, .ref sl, .ref wt, .int 0, .int 0, .int 0, .int 0, .int 0])), (nb, .inr (0, [.ref ntx, .ref nst, .ref nct, .int 0, .int 0, .int 3, .int 0, .int 0, .int 10, .int 0, .int 0, .int 0, .int 0, .int 1]))] [] H1 locs2 := Z3
  clear Z3
  refine lv_if_eq (tgt := 18) hx hb dX6_goods_5 (by decide) (fun _ => ?_) (fun h => absurd (by decide) h)
  refine lv_ldc (v := (-1000000001)) hx hb hown (hts _ (zz_m 1 rfl)) dX6_goods_18 ?_
  exact zz_iret X hr hlk Z4 () rfl [] [] (by decide +kernel) rfl rfl dX6_goods_20

set_option maxHeartbeats 4000000 in
set_option maxRecDepth 100000 in
theorem c6_shaded (l : Launch) (D : va_G) (x : Nat) (tx0 : Nat) (nb : Nat) (tb : Nat) (ib : Nat) (ah : Nat) (tp : Nat) (rd : Nat) (sh : Nat) (sl : Nat) (wt : Nat) (ntx : Nat) (nst : Nat) (nct : Nat) (stall : Int32) (n : Int32)  : zz_MI l yX6_shaded wsX6_shaded 2 43 0 0 D [.ref x, .int stall, .int n] [(x, .inr (6, [.ref tx0, .ref nb, .ref tb, .ref ib, .ref ah, .ref tp, .ref rd, .ref sh, .ref sl, .ref wt, .int 0, .int 0, .int 0, .int 0, .int 0])), (nb, .inr (0, [.ref ntx, .ref nst, .ref nct, .int 0, .int 0, .int 3, .int 0, .int 0, .int 10, .int 0, .int 0, .int 0, .int 0, .int 1]))] [] (fun (r : Int32) (u : Unit) => r = (-1000000001)) (fun (u : Unit) => []) (fun (u : Unit) => []) := by
  intro sz
  refine Met.ofW (cc := cX6_shaded) (maxL := 7) (ret := (some .int)) (by decide) rfl ?_
  intro p e s m args below meth c s₁ B hml hv
  obtain ⟨rfl, hC⟩ := hv
  have hx := B.exec
  have hb := B.bytes
  have hr := B.returns
  have hts := atoms_spec (ws := wsX6_shaded) B.pre
  have hown : s.vm.findClass RX6 = some m.cls := findClass_of_methodNamed B.named
  have hlk := B.notSynchronized
  have X : CallFix p m c cX6_shaded 7 s _ wsX6_shaded RX6 := ⟨hx, hb, hml, hown, hts⟩
  have Z := zz_enter hC
  generalize va_A [(x, .inr (6, [.ref tx0, .ref nb, .ref tb, .ref ib, .ref ah, .ref tp, .ref rd, .ref sh, .ref sl, .ref wt, .int 0, .int 0, .int 0, .int 0, .int 0])), (nb, .inr (0, [.ref ntx, .ref nst, .ref nct, .int 0, .int 0, .int 3, .int 0, .int 0, .int 10, .int 0, .int 0, .int 0, .int 0, .int 1]))] sz = A at Z ⊢
  have hl := lv_entry ([.ref x, .int stall, .int n]) (n := 7) (Nat.le_of_ble_eq_true rfl)
  rw [lg_entry_eq]
  generalize (lg_sl ([.ref x, .int stall, .int n]) ++ List.replicate (7 - (lg_sl ([.ref x, .int stall, .int n])).length) Slot.unset).toArray = ls at hl ⊢
  have hl : lv_has ls 7 [(0, .ref x), (1, .int stall), (2, .int n)] := hl
  refine lv_aload_n hx hb dX6_shaded_0 rfl (lv_at hl 0 rfl) ?_
  refine lv_iload_n hx hb dX6_shaded_1 rfl (lv_at hl 1 rfl) ?_
  refine zz_ci (WC := [(x, .inr (6, [.ref tx0, .ref nb, .ref tb, .ref ib, .ref ah, .ref tp, .ref rd, .ref sh, .ref sl, .ref wt, .int 0, .int 0, .int 0, .int 0, .int 0])), (nb, .inr (0, [.ref ntx, .ref nst, .ref nct, .int 0, .int 0, .int 3, .int 0, .int 0, .int 10, .int 0, .int 0, .int 0, .int 0, .int 1]))]) (TC := []) (WR := []) (TR := []) (k := 0) (n := 0) Z [0, 1] [] [] [] rfl rfl (by decide +kernel) (by decide +kernel) (by decide +kernel) rfl rfl (fun Zc => va_runV (As := [.int stall]) (rest := []) X (c_isStall l D x tx0 nb tb ib ah tp rd sh sl wt ntx nst nct stall s.heap.size) (cwV 1 hts gX6_shaded_X6_isStall rfl rfl rfl ⟨rfl, zh_X6_isStall⟩ ⟨Nat.le_of_ble_eq_true rfl, Nat.le_of_ble_eq_true rfl⟩) (zz_pV (ci := 6) Zc 0 rfl rfl) rfl rfl hl.1 rfl (lv_room (Nat.le_of_ble_eq_true rfl)) dX6_shaded_2 ⟨Nat.le_of_ble_eq_true rfl, Nat.le_of_ble_eq_true rfl⟩) rfl rfl (fun r3 u1 H1 locs2 hw2 Z3 => ?_)
  clear Z
  have hw2 : r3 = 0 := hw2.trans (by decide)
  subst r3
  have Z4 : zz_S D A s [(x, .inr (6, [.ref tx0, .ref nb, .ref tb, .ref ib, .ref ah, .ref tp, .ref rd, .ref sh, .ref sl, .ref wt, .int 0, .int 0, .int 0, .int 0, .int 0])), (nb, .inr (0, [.ref ntx, .ref nst, .ref nct, .int 0, .int 0, .int 3, .int 0, .int 0, .int 10, .int 0, .int 0, .int 0, .int 0, .int 1]))] [] H1 locs2 := Z3
  clear Z3
  refine lv_if_eq (tgt := 18) hx hb dX6_shaded_5 (by decide) (fun _ => ?_) (fun h => absurd (by decide) h)
  refine lv_ldc (v := (-1000000001)) hx hb hown (hts _ (zz_m 1 rfl)) dX6_shaded_18 ?_
  exact zz_iret X hr hlk Z4 () rfl [] [] (by decide +kernel) rfl rfl dX6_shaded_20

set_option maxHeartbeats 4000000 in
set_option maxRecDepth 100000 in
theorem c6_fine (l : Launch) (D : va_G) (x : Nat) (tx0 : Nat) (nb : Nat) (tb : Nat) (ib : Nat) (ah : Nat) (tp : Nat) (rd : Nat) (sh : Nat) (sl : Nat) (wt : Nat) (ntx : Nat) (nst : Nat) (nct : Nat) (stall : Int32)  : zz_MI l yX6_fine wsX6_fine 2 43 0 0 D [.ref x, .int stall] [(x, .inr (6, [.ref tx0, .ref nb, .ref tb, .ref ib, .ref ah, .ref tp, .ref rd, .ref sh, .ref sl, .ref wt, .int 0, .int 0, .int 0, .int 0, .int 0])), (nb, .inr (0, [.ref ntx, .ref nst, .ref nct, .int 0, .int 0, .int 3, .int 0, .int 0, .int 10, .int 0, .int 0, .int 0, .int 0, .int 1]))] [] (fun (r : Int32) (u : Unit) => r = (-1000000001)) (fun (u : Unit) => []) (fun (u : Unit) => []) := by
  intro sz
  refine Met.ofW (cc := cX6_fine) (maxL := 4) (ret := (some .int)) (by decide) rfl ?_
  intro p e s m args below meth c s₁ B hml hv
  obtain ⟨rfl, hC⟩ := hv
  have hx := B.exec
  have hb := B.bytes
  have hr := B.returns
  have hts := atoms_spec (ws := wsX6_fine) B.pre
  have hown : s.vm.findClass RX6 = some m.cls := findClass_of_methodNamed B.named
  have hlk := B.notSynchronized
  have X : CallFix p m c cX6_fine 4 s _ wsX6_fine RX6 := ⟨hx, hb, hml, hown, hts⟩
  have Z := zz_enter hC
  generalize va_A [(x, .inr (6, [.ref tx0, .ref nb, .ref tb, .ref ib, .ref ah, .ref tp, .ref rd, .ref sh, .ref sl, .ref wt, .int 0, .int 0, .int 0, .int 0, .int 0])), (nb, .inr (0, [.ref ntx, .ref nst, .ref nct, .int 0, .int 0, .int 3, .int 0, .int 0, .int 10, .int 0, .int 0, .int 0, .int 0, .int 1]))] sz = A at Z ⊢
  have hl := lv_entry ([.ref x, .int stall]) (n := 4) (Nat.le_of_ble_eq_true rfl)
  rw [lg_entry_eq]
  generalize (lg_sl ([.ref x, .int stall]) ++ List.replicate (4 - (lg_sl ([.ref x, .int stall])).length) Slot.unset).toArray = ls at hl ⊢
  have hl : lv_has ls 4 [(0, .ref x), (1, .int stall)] := hl
  refine lv_aload_n hx hb dX6_fine_0 rfl (lv_at hl 0 rfl) ?_
  refine lv_iload_n hx hb dX6_fine_1 rfl (lv_at hl 1 rfl) ?_
  refine zz_ci (WC := [(x, .inr (6, [.ref tx0, .ref nb, .ref tb, .ref ib, .ref ah, .ref tp, .ref rd, .ref sh, .ref sl, .ref wt, .int 0, .int 0, .int 0, .int 0, .int 0])), (nb, .inr (0, [.ref ntx, .ref nst, .ref nct, .int 0, .int 0, .int 3, .int 0, .int 0, .int 10, .int 0, .int 0, .int 0, .int 0, .int 1]))]) (TC := []) (WR := []) (TR := []) (k := 0) (n := 0) Z [0, 1] [] [] [] rfl rfl (by decide +kernel) (by decide +kernel) (by decide +kernel) rfl rfl (fun Zc => va_runV (As := [.int stall]) (rest := []) X (c_isStall l D x tx0 nb tb ib ah tp rd sh sl wt ntx nst nct stall s.heap.size) (cwV 1 hts gX6_fine_X6_isStall rfl rfl rfl ⟨rfl, zh_X6_isStall⟩ ⟨Nat.le_of_ble_eq_true rfl, Nat.le_of_ble_eq_true rfl⟩) (zz_pV (ci := 6) Zc 0 rfl rfl) rfl rfl hl.1 rfl (lv_room (Nat.le_of_ble_eq_true rfl)) dX6_fine_2 ⟨Nat.le_of_ble_eq_true rfl, Nat.le_of_ble_eq_true rfl⟩) rfl rfl (fun r3 u1 H1 locs2 hw2 Z3 => ?_)
  clear Z
  have hw2 : r3 = 0 := hw2.trans (by decide)
  subst r3
  have Z4 : zz_S D A s [(x, .inr (6, [.ref tx0, .ref nb, .ref tb, .ref ib, .ref ah, .ref tp, .ref rd, .ref sh, .ref sl, .ref wt, .int 0, .int 0, .int 0, .int 0, .int 0])), (nb, .inr (0, [.ref ntx, .ref nst, .ref nct, .int 0, .int 0, .int 3, .int 0, .int 0, .int 10, .int 0, .int 0, .int 0, .int 0, .int 1]))] [] H1 locs2 := Z3
  clear Z3
  refine lv_if_ne (tgt := 11) hx hb dX6_fine_5 (by decide) (fun h => absurd (by decide) h) (fun _ => ?_)
  refine lv_ldc (v := (-1000000001)) hx hb hown (hts _ (zz_m 1 rfl)) dX6_fine_8 ?_
  exact zz_iret X hr hlk Z4 () rfl [] [] (by decide +kernel) rfl rfl dX6_fine_10

set_option maxHeartbeats 4000000 in
set_option maxRecDepth 100000 in
theorem c6_seed (l : Launch) (D : va_G) (x : Nat) (tx0 : Nat) (nb : Nat) (tb : Nat) (ib : Nat) (ah : Nat) (tp : Nat) (rd : Nat) (sh : Nat) (sl : Nat) (wt : Nat) (ntx : Nat) (nst : Nat) (nct : Nat) (v : Int32)  : zz_MI l yX6_seed wsX6_seed 0 0 0 0 D [.ref x, .int v] [(x, .inr (6, [.ref tx0, .ref nb, .ref tb, .ref ib, .ref ah, .ref tp, .ref rd, .ref sh, .ref sl, .ref wt, .int 0, .int 0, .int 0, .int 0, .int 0])), (nb, .inr (0, [.ref ntx, .ref nst, .ref nct, .int 0, .int 0, .int 3, .int 0, .int 0, .int 10, .int 0, .int 0, .int 0, .int 0, .int 1]))] [] (fun (r : Int32) (u : Unit) => r = 1) (fun (u : Unit) => []) (fun (u : Unit) => []) := by
  intro sz
  refine Met.ofW (cc := cX6_seed) (maxL := 3) (ret := (some .int)) (by decide) rfl ?_
  intro p e s m args below meth c s₁ B hml hv
  obtain ⟨rfl, hC⟩ := hv
  have hx := B.exec
  have hb := B.bytes
  have hr := B.returns
  have hts := atoms_spec (ws := wsX6_seed) B.pre
  have hown : s.vm.findClass RX6 = some m.cls := findClass_of_methodNamed B.named
  have hlk := B.notSynchronized
  have X : CallFix p m c cX6_seed 3 s _ wsX6_seed RX6 := ⟨hx, hb, hml, hown, hts⟩
  have Z := zz_enter hC
  generalize va_A [(x, .inr (6, [.ref tx0, .ref nb, .ref tb, .ref ib, .ref ah, .ref tp, .ref rd, .ref sh, .ref sl, .ref wt, .int 0, .int 0, .int 0, .int 0, .int 0])), (nb, .inr (0, [.ref ntx, .ref nst, .ref nct, .int 0, .int 0, .int 3, .int 0, .int 0, .int 10, .int 0, .int 0, .int 0, .int 0, .int 1]))] sz = A at Z ⊢
  have hl := lv_entry ([.ref x, .int v]) (n := 3) (Nat.le_of_ble_eq_true rfl)
  rw [lg_entry_eq]
  generalize (lg_sl ([.ref x, .int v]) ++ List.replicate (3 - (lg_sl ([.ref x, .int v])).length) Slot.unset).toArray = ls at hl ⊢
  have hl : lv_has ls 3 [(0, .ref x), (1, .int v)] := hl
  refine lv_aload_n hx hb dX6_seed_0 rfl (lv_at hl 0 rfl) ?_
  refine zz_get X Z 0 rfl rfl (fun w h => List.mem_cons_of_mem _ (List.mem_append_left _ (List.mem_append_right _ h))) 1 rfl (zz_m 1 rfl) rfl dX6_seed_1 ?_
  refine zz_get X Z 1 rfl rfl (fun w h => List.mem_cons_of_mem _ (List.mem_append_right _ h)) 13 rfl (zz_m 2 rfl) rfl dX6_seed_4 ?_
  refine lv_istore_n (lv' := [(2, .int 1), (0, .ref x), (1, .int v)]) hx hb dX6_seed_7 rfl hl (by decide) rfl (fun ls1 hl2 => ?_)
  clear hl
  refine lv_aload_n hx hb dX6_seed_8 rfl (lv_at hl2 1 rfl) ?_
  refine zz_get X Z 0 rfl rfl (fun w h => List.mem_cons_of_mem _ (List.mem_append_left _ (List.mem_append_right _ h))) 1 rfl (zz_m 1 rfl) rfl dX6_seed_9 ?_
  refine lv_iload_n hx hb dX6_seed_12 rfl (lv_at hl2 2 rfl) ?_
  refine zz_put (WS' := [(x, .inr (6, [.ref tx0, .ref nb, .ref tb, .ref ib, .ref ah, .ref tp, .ref rd, .ref sh, .ref sl, .ref wt, .int 0, .int 0, .int 0, .int 0, .int 0])), (nb, .inr (0, [.ref ntx, .ref nst, .ref nct, .int 0, .int 0, .int 3, .int 0, .int 0, .int 10, .int 0, .int 0, .int 0, .int 0, .int v]))]) X Z 1 rfl rfl (fun w h => List.mem_cons_of_mem _ (List.mem_append_right _ h)) tyX0 tyX0_ok nmX0 13 rfl (zz_m 2 rfl) rfl rfl rfl rfl dX6_seed_13 rfl (fun H3 locs4 Z5 => ?_)
  clear Z
  refine lv_iload_n hx hb dX6_seed_16 rfl (lv_at hl2 0 rfl) ?_
  exact zz_iret X hr hlk Z5 () rfl [] [] (by decide +kernel) rfl rfl dX6_seed_17

set_option maxHeartbeats 4000000 in
set_option maxRecDepth 100000 in
theorem c6_textTold (l : Launch) (D : va_G) (x : Nat) (tx0 : Nat) (nb : Nat) (tb : Nat) (ib : Nat) (ah : Nat) (tp : Nat) (rd : Nat) (sh : Nat) (sl : Nat) (wt : Nat) (ntx : Nat) (nst : Nat) (nct : Nat) (text : Int32) (what : Int32)  : zz_MI l yX6_textTold wsX6_textTold 1 22 0 0 D [.ref x, .int text, .int what] [(x, .inr (6, [.ref tx0, .ref nb, .ref tb, .ref ib, .ref ah, .ref tp, .ref rd, .ref sh, .ref sl, .ref wt, .int 0, .int 0, .int 0, .int 0, .int 0])), (nb, .inr (0, [.ref ntx, .ref nst, .ref nct, .int 0, .int 0, .int 3, .int 0, .int 0, .int 10, .int 0, .int 0, .int 0, .int 0, .int 1]))] [] (fun (r : Int32) (u : Unit) => r = (-1000000001)) (fun (u : Unit) => []) (fun (u : Unit) => []) := by
  intro sz
  refine Met.ofW (cc := cX6_textTold) (maxL := 3) (ret := (some .int)) (by decide) rfl ?_
  intro p e s m args below meth c s₁ B hml hv
  obtain ⟨rfl, hC⟩ := hv
  have hx := B.exec
  have hb := B.bytes
  have hr := B.returns
  have hts := atoms_spec (ws := wsX6_textTold) B.pre
  have hown : s.vm.findClass RX6 = some m.cls := findClass_of_methodNamed B.named
  have hlk := B.notSynchronized
  have X : CallFix p m c cX6_textTold 3 s _ wsX6_textTold RX6 := ⟨hx, hb, hml, hown, hts⟩
  have Z := zz_enter hC
  generalize va_A [(x, .inr (6, [.ref tx0, .ref nb, .ref tb, .ref ib, .ref ah, .ref tp, .ref rd, .ref sh, .ref sl, .ref wt, .int 0, .int 0, .int 0, .int 0, .int 0])), (nb, .inr (0, [.ref ntx, .ref nst, .ref nct, .int 0, .int 0, .int 3, .int 0, .int 0, .int 10, .int 0, .int 0, .int 0, .int 0, .int 1]))] sz = A at Z ⊢
  have hl := lv_entry ([.ref x, .int text, .int what]) (n := 3) (Nat.le_of_ble_eq_true rfl)
  rw [lg_entry_eq]
  generalize (lg_sl ([.ref x, .int text, .int what]) ++ List.replicate (3 - (lg_sl ([.ref x, .int text, .int what])).length) Slot.unset).toArray = ls at hl ⊢
  have hl : lv_has ls 3 [(0, .ref x), (1, .int text), (2, .int what)] := hl
  refine lv_iload_n hx hb dX6_textTold_0 rfl (lv_at hl 1 rfl) ?_
  refine lv_iconst (v := 0) hx hb dX6_textTold_1 (by decide) ?_
  refine lv_aload_n hx hb dX6_textTold_2 rfl (lv_at hl 0 rfl) ?_
  refine zz_get X Z 0 rfl rfl (fun w h => List.mem_cons_of_mem _ (List.mem_append_left _ (List.mem_append_left _ (List.mem_append_right _ h)))) 1 rfl (zz_m 1 rfl) rfl dX6_textTold_3 ?_
  refine zz_get X Z 1 rfl rfl (fun w h => List.mem_cons_of_mem _ (List.mem_append_left _ (List.mem_append_right _ h))) 4 rfl (zz_m 2 rfl) rfl dX6_textTold_6 ?_
  refine lv_iconst (v := 1) hx hb dX6_textTold_9 (by decide) ?_
  refine lv_isub hx hb dX6_textTold_10 ?_
  refine zz_v (v := (-1)) (by decide) ?_
  refine zz_ci (WC := []) (TC := []) (WR := [(x, .inr (6, [.ref tx0, .ref nb, .ref tb, .ref ib, .ref ah, .ref tp, .ref rd, .ref sh, .ref sl, .ref wt, .int 0, .int 0, .int 0, .int 0, .int 0])), (nb, .inr (0, [.ref ntx, .ref nst, .ref nct, .int 0, .int 0, .int 3, .int 0, .int 0, .int 10, .int 0, .int 0, .int 0, .int 0, .int 1]))]) (TR := []) (k := 0) (n := 0) Z [] [0, 1] [] [] rfl rfl (by decide +kernel) (by decide +kernel) (by decide +kernel) rfl rfl (fun Zc => va_runS (As := [.int text, .int 0, .int (-1)]) (rest := []) X (c_within l D text 0 (-1) s.heap.size) (va_cwS 3 hts gX6_textTold_X6_within rfl rfl rfl zh_X6_within ⟨Nat.le_of_ble_eq_true rfl, Nat.le_of_ble_eq_true rfl⟩) (zz_pS Zc) rfl rfl hl.1 rfl (lv_room (Nat.le_of_ble_eq_true rfl)) dX6_textTold_11 ⟨Nat.le_of_ble_eq_true rfl, Nat.le_of_ble_eq_true rfl⟩) rfl rfl (fun r3 u1 H1 locs2 hw2 Z3 => ?_)
  clear Z
  subst r3
  have Z4 : zz_S D A s [(x, .inr (6, [.ref tx0, .ref nb, .ref tb, .ref ib, .ref ah, .ref tp, .ref rd, .ref sh, .ref sl, .ref wt, .int 0, .int 0, .int 0, .int 0, .int 0])), (nb, .inr (0, [.ref ntx, .ref nst, .ref nct, .int 0, .int 0, .int 3, .int 0, .int 0, .int 10, .int 0, .int 0, .int 0, .int 0, .int 1]))] [] H1 locs2 := Z3
  clear Z3
  refine zz_v (v := 0) (zz_wiF (zz_no text)) ?_
  refine lv_if_ne (tgt := 20) hx hb dX6_textTold_14 (by decide) (fun h => absurd (by decide) h) (fun _ => ?_)
  refine lv_ldc (v := (-1000000001)) hx hb hown (hts _ (zz_m 3 rfl)) dX6_textTold_17 ?_
  exact zz_iret X hr hlk Z4 () rfl [] [] (by decide +kernel) rfl rfl dX6_textTold_19

set_option maxHeartbeats 4000000 in
set_option maxRecDepth 100000 in
theorem c6_back (l : Launch) (D : va_G) (x : Nat) (tx0 : Nat) (nb : Nat) (tb : Nat) (ib : Nat) (ah : Nat) (tp : Nat) (rd : Nat) (sh : Nat) (sl : Nat) (wt : Nat)  : zz_MI l yX6_back wsX6_back 0 0 0 0 D [.ref x] [(x, .inr (6, [.ref tx0, .ref nb, .ref tb, .ref ib, .ref ah, .ref tp, .ref rd, .ref sh, .ref sl, .ref wt, .int 0, .int 0, .int 0, .int 0, .int 0]))] [] (fun (r : Int32) (u : Unit) => r = (-1000000002)) (fun (u : Unit) => []) (fun (u : Unit) => []) := by
  intro sz
  refine Met.ofW (cc := cX6_back) (maxL := 1) (ret := (some .int)) (by decide) rfl ?_
  intro p e s m args below meth c s₁ B hml hv
  obtain ⟨rfl, hC⟩ := hv
  have hx := B.exec
  have hb := B.bytes
  have hr := B.returns
  have hts := atoms_spec (ws := wsX6_back) B.pre
  have hown : s.vm.findClass RX6 = some m.cls := findClass_of_methodNamed B.named
  have hlk := B.notSynchronized
  have X : CallFix p m c cX6_back 1 s _ wsX6_back RX6 := ⟨hx, hb, hml, hown, hts⟩
  have Z := zz_enter hC
  generalize va_A [(x, .inr (6, [.ref tx0, .ref nb, .ref tb, .ref ib, .ref ah, .ref tp, .ref rd, .ref sh, .ref sl, .ref wt, .int 0, .int 0, .int 0, .int 0, .int 0]))] sz = A at Z ⊢
  have hl := lv_entry ([.ref x]) (n := 1) (Nat.le_of_ble_eq_true rfl)
  rw [lg_entry_eq]
  generalize (lg_sl ([.ref x]) ++ List.replicate (1 - (lg_sl ([.ref x])).length) Slot.unset).toArray = ls at hl ⊢
  have hl : lv_has ls 1 [(0, .ref x)] := hl
  refine lv_aload_n hx hb dX6_back_0 rfl (lv_at hl 0 rfl) ?_
  refine zz_get X Z 0 rfl rfl (fun w h => List.mem_cons_of_mem _ (List.mem_append_left _ (List.mem_append_left _ (List.mem_append_right _ h)))) 12 rfl (zz_m 1 rfl) rfl dX6_back_1 ?_
  refine lv_if_ne (tgt := 11) hx hb dX6_back_4 (by decide) (fun h => absurd (by decide) h) (fun _ => ?_)
  refine lv_ldcw (v := (-1000000002)) hx hb hown (hts _ (zz_m 2 rfl)) dX6_back_7 ?_
  exact zz_iret X hr hlk Z () rfl [] [] (by decide +kernel) rfl rfl dX6_back_10

set_option maxHeartbeats 4000000 in
set_option maxRecDepth 100000 in
theorem c6_tell (l : Launch) (D : va_G) (x : Nat) (tx0 : Nat) (nb : Nat) (tb : Nat) (ib : Nat) (ah : Nat) (tp : Nat) (rd : Nat) (sh : Nat) (sl : Nat) (wt : Nat) (kwt : ClassId) (wf : (Nat → Int32)) (v : Int32)  : zz_MI l yX6_tell wsX6_tell 0 0 0 0 D [.ref x, .int v] [(x, .inr (6, [.ref tx0, .ref nb, .ref tb, .ref ib, .ref ah, .ref tp, .ref rd, .ref sh, .ref sl, .ref wt, .int 0, .int 0, .int 0, .int 0, .int 0])), (wt, .inl (kwt, 60, .inl wf))] [(kwt, .int)] (fun (r : Int32) (u : Unit) => r = 1) (fun (u : Unit) => []) (fun (u : Unit) => []) := by
  intro sz
  refine Met.ofW (cc := cX6_tell) (maxL := 2) (ret := (some .int)) (by decide) rfl ?_
  intro p e s m args below meth c s₁ B hml hv
  obtain ⟨rfl, hC⟩ := hv
  have hx := B.exec
  have hb := B.bytes
  have hr := B.returns
  have hts := atoms_spec (ws := wsX6_tell) B.pre
  have hown : s.vm.findClass RX6 = some m.cls := findClass_of_methodNamed B.named
  have hlk := B.notSynchronized
  have X : CallFix p m c cX6_tell 2 s _ wsX6_tell RX6 := ⟨hx, hb, hml, hown, hts⟩
  have Z := zz_enter hC
  generalize va_A [(x, .inr (6, [.ref tx0, .ref nb, .ref tb, .ref ib, .ref ah, .ref tp, .ref rd, .ref sh, .ref sl, .ref wt, .int 0, .int 0, .int 0, .int 0, .int 0])), (wt, .inl (kwt, 60, .inl wf))] sz = A at Z ⊢
  have hl := lv_entry ([.ref x, .int v]) (n := 2) (Nat.le_of_ble_eq_true rfl)
  rw [lg_entry_eq]
  generalize (lg_sl ([.ref x, .int v]) ++ List.replicate (2 - (lg_sl ([.ref x, .int v])).length) Slot.unset).toArray = ls at hl ⊢
  have hl : lv_has ls 2 [(0, .ref x), (1, .int v)] := hl
  refine lv_aload_n hx hb dX6_tell_0 rfl (lv_at hl 0 rfl) ?_
  refine zz_get X Z 0 rfl rfl (fun w h => List.mem_cons_of_mem _ (List.mem_append_right _ h)) 11 rfl (zz_m 1 rfl) rfl dX6_tell_1 ?_
  refine lv_bipush (v := 60) hx hb dX6_tell_4 (by decide) ?_
  refine lv_icmp_lt (tgt := 12) hx hb dX6_tell_6 (by decide) (fun _ => ?_) (fun h => absurd (by decide) h)
  refine lv_aload_n hx hb dX6_tell_12 rfl (lv_at hl 0 rfl) ?_
  refine zz_get X Z 0 rfl rfl (fun w h => List.mem_cons_of_mem _ (List.mem_append_right _ h)) 9 rfl (zz_m 3 rfl) rfl dX6_tell_13 ?_
  refine lv_aload_n hx hb dX6_tell_16 rfl (lv_at hl 0 rfl) ?_
  refine zz_get X Z 0 rfl rfl (fun w h => List.mem_cons_of_mem _ (List.mem_append_right _ h)) 11 rfl (zz_m 1 rfl) rfl dX6_tell_17 ?_
  refine lv_iload_n hx hb dX6_tell_20 rfl (lv_at hl 1 rfl) ?_
  refine zz_istN (WS' := fun f1 => [(x, .inr (6, [.ref tx0, .ref nb, .ref tb, .ref ib, .ref ah, .ref tp, .ref rd, .ref sh, .ref sl, .ref wt, .int 0, .int 0, .int 0, .int 0, .int 0])), (wt, .inl (kwt, 60, .inl f1))]) X Z 1 0 rfl rfl (zz_in 0 60 rfl) dX6_tell_21 (fun _ => rfl) (fun f1 ef2 H1 locs2 Z3 => ?_)
  clear Z
  refine lv_aload_n hx hb dX6_tell_22 rfl (lv_at hl 0 rfl) ?_
  refine lv_dup hx hb dX6_tell_23 rfl ?_
  refine zz_get X Z3 0 rfl rfl (fun w h => List.mem_cons_of_mem _ (List.mem_append_right _ h)) 11 rfl (zz_m 1 rfl) rfl dX6_tell_24 ?_
  refine lv_iconst (v := 1) hx hb dX6_tell_27 (by decide) ?_
  refine lv_iadd hx hb dX6_tell_28 ?_
  refine zz_v (v := 1) (by decide) ?_
  refine zz_put (WS' := [(x, .inr (6, [.ref tx0, .ref nb, .ref tb, .ref ib, .ref ah, .ref tp, .ref rd, .ref sh, .ref sl, .ref wt, .int 0, .int 1, .int 0, .int 0, .int 0])), (wt, .inl (kwt, 60, .inl f1))]) X Z3 0 rfl rfl (fun w h => List.mem_cons_of_mem _ (List.mem_append_right _ h)) tyX6 tyX6_ok nmX6 11 rfl (zz_m 1 rfl) rfl rfl rfl rfl dX6_tell_29 rfl (fun H4 locs5 Z6 => ?_)
  clear Z3
  refine lv_aload_n hx hb dX6_tell_32 rfl (lv_at hl 0 rfl) ?_
  refine zz_get X Z6 0 rfl rfl (fun w h => List.mem_cons_of_mem _ (List.mem_append_right _ h)) 11 rfl (zz_m 1 rfl) rfl dX6_tell_33 ?_
  exact zz_iret X hr hlk Z6 () rfl [] [] (by decide +kernel) rfl rfl dX6_tell_36

set_option maxHeartbeats 4000000 in
set_option maxRecDepth 100000 in
theorem c6_check (l : Launch) (D : va_G) (x : Nat) (tx0 : Nat) (nb : Nat) (tb : Nat) (ib : Nat) (ah : Nat) (tp : Nat) (rd : Nat) (sh : Nat) (sl : Nat) (wt : Nat) (n : Int32)  : zz_MI l yX6_check wsX6_check 1 22 0 0 D [.ref x, .int n] [(x, .inr (6, [.ref tx0, .ref nb, .ref tb, .ref ib, .ref ah, .ref tp, .ref rd, .ref sh, .ref sl, .ref wt, .int 0, .int 0, .int 0, .int 0, .int 0]))] [] (fun (r : Int32) (u : Unit) => r = sp_check n) (fun (u : Unit) => []) (fun (u : Unit) => []) := by
  intro sz
  refine Met.ofW (cc := cX6_check) (maxL := 6) (ret := (some .int)) (by decide) rfl ?_
  intro p e s m args below meth c s₁ B hml hv
  obtain ⟨rfl, hC⟩ := hv
  have hx := B.exec
  have hb := B.bytes
  have hr := B.returns
  have hts := atoms_spec (ws := wsX6_check) B.pre
  have hown : s.vm.findClass RX6 = some m.cls := findClass_of_methodNamed B.named
  have hlk := B.notSynchronized
  have X : CallFix p m c cX6_check 6 s _ wsX6_check RX6 := ⟨hx, hb, hml, hown, hts⟩
  have Z := zz_enter hC
  generalize va_A [(x, .inr (6, [.ref tx0, .ref nb, .ref tb, .ref ib, .ref ah, .ref tp, .ref rd, .ref sh, .ref sl, .ref wt, .int 0, .int 0, .int 0, .int 0, .int 0]))] sz = A at Z ⊢
  have hl := lv_entry ([.ref x, .int n]) (n := 6) (Nat.le_of_ble_eq_true rfl)
  rw [lg_entry_eq]
  generalize (lg_sl ([.ref x, .int n]) ++ List.replicate (6 - (lg_sl ([.ref x, .int n])).length) Slot.unset).toArray = ls at hl ⊢
  have hl : lv_has ls 6 [(0, .ref x), (1, .int n)] := hl
  refine lv_aload_n hx hb dX6_check_0 rfl (lv_at hl 0 rfl) ?_
  refine zz_get X Z 0 rfl rfl (fun w h => List.mem_cons_of_mem _ (List.mem_append_left _ (List.mem_append_left _ (List.mem_append_left _ (List.mem_append_right _ h))))) 11 rfl (zz_m 1 rfl) rfl dX6_check_1 ?_
  refine lv_istore_n (lv' := [(2, .int 0), (0, .ref x), (1, .int n)]) hx hb dX6_check_4 rfl hl (by decide) rfl (fun ls1 hl2 => ?_)
  clear hl
  refine lv_aload_n hx hb dX6_check_5 rfl (lv_at hl2 1 rfl) ?_
  refine lv_iconst (v := 0) hx hb dX6_check_6 (by decide) ?_
  refine zz_put (WS' := [(x, .inr (6, [.ref tx0, .ref nb, .ref tb, .ref ib, .ref ah, .ref tp, .ref rd, .ref sh, .ref sl, .ref wt, .int 0, .int 0, .int 0, .int 0, .int 0]))]) X Z 0 rfl rfl (fun w h => List.mem_cons_of_mem _ (List.mem_append_left _ (List.mem_append_left _ (List.mem_append_left _ (List.mem_append_right _ h))))) tyX6 tyX6_ok nmX6 11 rfl (zz_m 1 rfl) rfl rfl rfl rfl dX6_check_7 rfl (fun H3 locs4 Z5 => ?_)
  clear Z
  refine lv_iload_n hx hb dX6_check_10 rfl (lv_at hl2 2 rfl) ?_
  refine lv_iconst (v := 1) hx hb dX6_check_11 (by decide) ?_
  refine lv_bipush (v := 30) hx hb dX6_check_12 (by decide) ?_
  refine zz_ci (WC := []) (TC := []) (WR := [(x, .inr (6, [.ref tx0, .ref nb, .ref tb, .ref ib, .ref ah, .ref tp, .ref rd, .ref sh, .ref sl, .ref wt, .int 0, .int 0, .int 0, .int 0, .int 0]))]) (TR := []) (k := 0) (n := 0) Z5 [] [0] [] [] rfl rfl (by decide +kernel) (by decide +kernel) (by decide +kernel) rfl rfl (fun Zc => va_runS (As := [.int n, .int 1, .int 30]) (rest := []) X (c_within l D n 1 30 H3.size) (va_cwS 3 hts gX6_check_X6_within rfl rfl rfl zh_X6_within ⟨Nat.le_of_ble_eq_true rfl, Nat.le_of_ble_eq_true rfl⟩) (zz_pS Zc) rfl rfl hl2.1 rfl (lv_room (Nat.le_of_ble_eq_true rfl)) dX6_check_14 ⟨Nat.le_of_ble_eq_true rfl, Nat.le_of_ble_eq_true rfl⟩) rfl rfl (fun r3 u1 H6 locs7 hw2 Z8 => ?_)
  clear Z5
  subst r3
  have Z9 : zz_S D A s [(x, .inr (6, [.ref tx0, .ref nb, .ref tb, .ref ib, .ref ah, .ref tp, .ref rd, .ref sh, .ref sl, .ref wt, .int 0, .int 0, .int 0, .int 0, .int 0]))] [] H6 locs7 := Z8
  clear Z8
  by_cases w4 : 1 ≤ n ∧ n ≤ 30
  · refine zz_v (v := 1) (zz_wiT w4) ?_
    refine lv_if_ne (tgt := 23) hx hb dX6_check_17 (by decide) (fun _ => ?_) (fun h => absurd h (by decide))
    refine lv_aload_n hx hb dX6_check_23 rfl (lv_at hl2 1 rfl) ?_
    refine zz_get X Z9 0 rfl rfl (fun w h => List.mem_cons_of_mem _ (List.mem_append_left _ (List.mem_append_left _ (List.mem_append_left _ (List.mem_append_right _ h))))) 12 rfl (zz_m 3 rfl) rfl dX6_check_24 ?_
    refine lv_if_ne (tgt := 34) hx hb dX6_check_27 (by decide) (fun h => absurd (by decide) h) (fun _ => ?_)
    refine lv_ldcw (v := (-1000000002)) hx hb hown (hts _ (zz_m 4 rfl)) dX6_check_30 ?_
    exact zz_iret X hr hlk Z9 () (by simp [sp_check, w4]) [] [] (by decide +kernel) rfl rfl dX6_check_33
  · refine zz_v (v := 0) (zz_wiF w4) ?_
    refine lv_if_ne (tgt := 23) hx hb dX6_check_17 (by decide) (fun h => absurd (by decide) h) (fun _ => ?_)
    refine lv_ldc (v := (-1000000001)) hx hb hown (hts _ (zz_m 2 rfl)) dX6_check_20 ?_
    exact zz_iret X hr hlk Z9 () (by simp [sp_check, w4]) [] [] (by decide +kernel) rfl rfl dX6_check_22

set_option maxHeartbeats 4000000 in
set_option maxRecDepth 100000 in
theorem c6_trim (l : Launch) (D : va_G) (x : Nat) (tx0 : Nat) (nb : Nat) (tb : Nat) (ib : Nat) (ah : Nat) (tp : Nat) (rd : Nat) (sh : Nat) (sl : Nat) (wt : Nat) (n : Int32)  : zz_MI l yX6_trim wsX6_trim 1 22 0 0 D [.ref x, .int n] [(x, .inr (6, [.ref tx0, .ref nb, .ref tb, .ref ib, .ref ah, .ref tp, .ref rd, .ref sh, .ref sl, .ref wt, .int 0, .int 0, .int 0, .int 0, .int 0]))] [] (fun (r : Int32) (u : Unit) => r = sp_trim n) (fun (u : Unit) => []) (fun (u : Unit) => []) := by
  intro sz
  refine Met.ofW (cc := cX6_trim) (maxL := 2) (ret := (some .int)) (by decide) rfl ?_
  intro p e s m args below meth c s₁ B hml hv
  obtain ⟨rfl, hC⟩ := hv
  have hx := B.exec
  have hb := B.bytes
  have hr := B.returns
  have hts := atoms_spec (ws := wsX6_trim) B.pre
  have hown : s.vm.findClass RX6 = some m.cls := findClass_of_methodNamed B.named
  have hlk := B.notSynchronized
  have X : CallFix p m c cX6_trim 2 s _ wsX6_trim RX6 := ⟨hx, hb, hml, hown, hts⟩
  have Z := zz_enter hC
  generalize va_A [(x, .inr (6, [.ref tx0, .ref nb, .ref tb, .ref ib, .ref ah, .ref tp, .ref rd, .ref sh, .ref sl, .ref wt, .int 0, .int 0, .int 0, .int 0, .int 0]))] sz = A at Z ⊢
  have hl := lv_entry ([.ref x, .int n]) (n := 2) (Nat.le_of_ble_eq_true rfl)
  rw [lg_entry_eq]
  generalize (lg_sl ([.ref x, .int n]) ++ List.replicate (2 - (lg_sl ([.ref x, .int n])).length) Slot.unset).toArray = ls at hl ⊢
  have hl : lv_has ls 2 [(0, .ref x), (1, .int n)] := hl
  refine lv_iload_n hx hb dX6_trim_0 rfl (lv_at hl 1 rfl) ?_
  refine lv_iconst (v := 0) hx hb dX6_trim_1 (by decide) ?_
  refine lv_aload_n hx hb dX6_trim_2 rfl (lv_at hl 0 rfl) ?_
  refine zz_get X Z 0 rfl rfl (fun w h => List.mem_cons_of_mem _ (List.mem_append_right _ h)) 10 rfl (zz_m 1 rfl) rfl dX6_trim_3 ?_
  refine zz_ci (WC := []) (TC := []) (WR := [(x, .inr (6, [.ref tx0, .ref nb, .ref tb, .ref ib, .ref ah, .ref tp, .ref rd, .ref sh, .ref sl, .ref wt, .int 0, .int 0, .int 0, .int 0, .int 0]))]) (TR := []) (k := 0) (n := 0) Z [] [0] [] [] rfl rfl (by decide +kernel) (by decide +kernel) (by decide +kernel) rfl rfl (fun Zc => va_runS (As := [.int n, .int 0, .int 0]) (rest := []) X (c_within l D n 0 0 s.heap.size) (va_cwS 3 hts gX6_trim_X6_within rfl rfl rfl zh_X6_within ⟨Nat.le_of_ble_eq_true rfl, Nat.le_of_ble_eq_true rfl⟩) (zz_pS Zc) rfl rfl hl.1 rfl (lv_room (Nat.le_of_ble_eq_true rfl)) dX6_trim_6 ⟨Nat.le_of_ble_eq_true rfl, Nat.le_of_ble_eq_true rfl⟩) rfl rfl (fun r3 u1 H1 locs2 hw2 Z3 => ?_)
  clear Z
  subst r3
  have Z4 : zz_S D A s [(x, .inr (6, [.ref tx0, .ref nb, .ref tb, .ref ib, .ref ah, .ref tp, .ref rd, .ref sh, .ref sl, .ref wt, .int 0, .int 0, .int 0, .int 0, .int 0]))] [] H1 locs2 := Z3
  clear Z3
  by_cases w4 : 0 ≤ n ∧ n ≤ 0
  · refine zz_v (v := 1) (zz_wiT w4) ?_
    refine lv_if_ne (tgt := 15) hx hb dX6_trim_9 (by decide) (fun _ => ?_) (fun h => absurd h (by decide))
    refine lv_aload_n hx hb dX6_trim_15 rfl (lv_at hl 0 rfl) ?_
    refine lv_iload_n hx hb dX6_trim_16 rfl (lv_at hl 1 rfl) ?_
    refine zz_put (WS' := [(x, .inr (6, [.ref tx0, .ref nb, .ref tb, .ref ib, .ref ah, .ref tp, .ref rd, .ref sh, .ref sl, .ref wt, .int n, .int 0, .int 0, .int 0, .int 0]))]) X Z4 0 rfl rfl (fun w h => List.mem_cons_of_mem _ (List.mem_append_right _ h)) tyX6 tyX6_ok nmX6 10 rfl (zz_m 1 rfl) rfl rfl rfl rfl dX6_trim_17 rfl (fun H5 locs6 Z7 => ?_)
    clear Z4
    refine lv_iload_n hx hb dX6_trim_20 rfl (lv_at hl 1 rfl) ?_
    exact zz_iret X hr hlk Z7 () (by simp [sp_trim, w4]) [] [] (by decide +kernel) rfl rfl dX6_trim_21
  · refine zz_v (v := 0) (zz_wiF w4) ?_
    refine lv_if_ne (tgt := 15) hx hb dX6_trim_9 (by decide) (fun h => absurd (by decide) h) (fun _ => ?_)
    refine lv_ldc (v := (-1000000001)) hx hb hown (hts _ (zz_m 2 rfl)) dX6_trim_12 ?_
    exact zz_iret X hr hlk Z4 () (by simp [sp_trim, w4]) [] [] (by decide +kernel) rfl rfl dX6_trim_14

set_option maxHeartbeats 4000000 in
set_option maxRecDepth 100000 in
theorem c6_without (l : Launch) (D : va_G) (x : Nat) (tx0 : Nat) (nb : Nat) (tb : Nat) (ib : Nat) (ah : Nat) (tp : Nat) (rd : Nat) (sh : Nat) (sl : Nat) (wt : Nat) (ntx : Nat) (nst : Nat) (nct : Nat) (n : Int32) (what : Int32)  : zz_MI l yX6_without wsX6_without 1 22 0 0 D [.ref x, .int n, .int what] [(x, .inr (6, [.ref tx0, .ref nb, .ref tb, .ref ib, .ref ah, .ref tp, .ref rd, .ref sh, .ref sl, .ref wt, .int 0, .int 0, .int 0, .int 0, .int 0])), (nb, .inr (0, [.ref ntx, .ref nst, .ref nct, .int 0, .int 0, .int 3, .int 0, .int 0, .int 10, .int 0, .int 0, .int 0, .int 0, .int 1]))] [] (fun (r : Int32) (u : Unit) => r = sp_without n what) (fun (u : Unit) => []) (fun (u : Unit) => []) := by
  intro sz
  refine Met.ofW (cc := cX6_without) (maxL := 6) (ret := (some .int)) (by decide) rfl ?_
  intro p e s m args below meth c s₁ B hml hv
  obtain ⟨rfl, hC⟩ := hv
  have hx := B.exec
  have hb := B.bytes
  have hr := B.returns
  have hts := atoms_spec (ws := wsX6_without) B.pre
  have hown : s.vm.findClass RX6 = some m.cls := findClass_of_methodNamed B.named
  have hlk := B.notSynchronized
  have X : CallFix p m c cX6_without 6 s _ wsX6_without RX6 := ⟨hx, hb, hml, hown, hts⟩
  have Z := zz_enter hC
  generalize va_A [(x, .inr (6, [.ref tx0, .ref nb, .ref tb, .ref ib, .ref ah, .ref tp, .ref rd, .ref sh, .ref sl, .ref wt, .int 0, .int 0, .int 0, .int 0, .int 0])), (nb, .inr (0, [.ref ntx, .ref nst, .ref nct, .int 0, .int 0, .int 3, .int 0, .int 0, .int 10, .int 0, .int 0, .int 0, .int 0, .int 1]))] sz = A at Z ⊢
  have hl := lv_entry ([.ref x, .int n, .int what]) (n := 6) (Nat.le_of_ble_eq_true rfl)
  rw [lg_entry_eq]
  generalize (lg_sl ([.ref x, .int n, .int what]) ++ List.replicate (6 - (lg_sl ([.ref x, .int n, .int what])).length) Slot.unset).toArray = ls at hl ⊢
  have hl : lv_has ls 6 [(0, .ref x), (1, .int n), (2, .int what)] := hl
  refine lv_iload_n hx hb dX6_without_0 rfl (lv_at hl 1 rfl) ?_
  refine lv_iconst (v := 1) hx hb dX6_without_1 (by decide) ?_
  refine lv_bipush (v := 60) hx hb dX6_without_2 (by decide) ?_
  refine zz_ci (WC := []) (TC := []) (WR := [(x, .inr (6, [.ref tx0, .ref nb, .ref tb, .ref ib, .ref ah, .ref tp, .ref rd, .ref sh, .ref sl, .ref wt, .int 0, .int 0, .int 0, .int 0, .int 0])), (nb, .inr (0, [.ref ntx, .ref nst, .ref nct, .int 0, .int 0, .int 3, .int 0, .int 0, .int 10, .int 0, .int 0, .int 0, .int 0, .int 1]))]) (TR := []) (k := 0) (n := 0) Z [] [0, 1] [] [] rfl rfl (by decide +kernel) (by decide +kernel) (by decide +kernel) rfl rfl (fun Zc => va_runS (As := [.int n, .int 1, .int 60]) (rest := []) X (c_within l D n 1 60 s.heap.size) (va_cwS 3 hts gX6_without_X6_within rfl rfl rfl zh_X6_within ⟨Nat.le_of_ble_eq_true rfl, Nat.le_of_ble_eq_true rfl⟩) (zz_pS Zc) rfl rfl hl.1 rfl (lv_room (Nat.le_of_ble_eq_true rfl)) dX6_without_4 ⟨Nat.le_of_ble_eq_true rfl, Nat.le_of_ble_eq_true rfl⟩) rfl rfl (fun r3 u1 H1 locs2 hw2 Z3 => ?_)
  clear Z
  subst r3
  have Z4 : zz_S D A s [(x, .inr (6, [.ref tx0, .ref nb, .ref tb, .ref ib, .ref ah, .ref tp, .ref rd, .ref sh, .ref sl, .ref wt, .int 0, .int 0, .int 0, .int 0, .int 0])), (nb, .inr (0, [.ref ntx, .ref nst, .ref nct, .int 0, .int 0, .int 3, .int 0, .int 0, .int 10, .int 0, .int 0, .int 0, .int 0, .int 1]))] [] H1 locs2 := Z3
  clear Z3
  by_cases w4 : 1 ≤ n ∧ n ≤ 60
  · refine zz_v (v := 1) (zz_wiT w4) ?_
    refine lv_if_eq (tgt := 19) hx hb dX6_without_7 (by decide) (fun h => absurd h (by decide)) (fun _ => ?_)
    refine lv_iload_n hx hb dX6_without_10 rfl (lv_at hl 2 rfl) ?_
    refine lv_iconst (v := 0) hx hb dX6_without_11 (by decide) ?_
    refine lv_iconst (v := 1) hx hb dX6_without_12 (by decide) ?_
    refine zz_ci (WC := []) (TC := []) (WR := [(x, .inr (6, [.ref tx0, .ref nb, .ref tb, .ref ib, .ref ah, .ref tp, .ref rd, .ref sh, .ref sl, .ref wt, .int 0, .int 0, .int 0, .int 0, .int 0])), (nb, .inr (0, [.ref ntx, .ref nst, .ref nct, .int 0, .int 0, .int 3, .int 0, .int 0, .int 10, .int 0, .int 0, .int 0, .int 0, .int 1]))]) (TR := []) (k := 0) (n := 0) Z4 [] [0, 1] [] [] rfl rfl (by decide +kernel) (by decide +kernel) (by decide +kernel) rfl rfl (fun Zc => va_runS (As := [.int what, .int 0, .int 1]) (rest := []) X (c_within l D what 0 1 H1.size) (va_cwS 3 hts gX6_without_X6_within rfl rfl rfl zh_X6_within ⟨Nat.le_of_ble_eq_true rfl, Nat.le_of_ble_eq_true rfl⟩) (zz_pS Zc) rfl rfl hl.1 rfl (lv_room (Nat.le_of_ble_eq_true rfl)) dX6_without_13 ⟨Nat.le_of_ble_eq_true rfl, Nat.le_of_ble_eq_true rfl⟩) rfl rfl (fun r7 u5 H5 locs6 hw6 Z7 => ?_)
    clear Z4
    subst r7
    have Z8 : zz_S D A s [(x, .inr (6, [.ref tx0, .ref nb, .ref tb, .ref ib, .ref ah, .ref tp, .ref rd, .ref sh, .ref sl, .ref wt, .int 0, .int 0, .int 0, .int 0, .int 0])), (nb, .inr (0, [.ref ntx, .ref nst, .ref nct, .int 0, .int 0, .int 3, .int 0, .int 0, .int 10, .int 0, .int 0, .int 0, .int 0, .int 1]))] [] H5 locs6 := Z7
    clear Z7
    by_cases w8 : 0 ≤ what ∧ what ≤ 1
    · refine zz_v (v := 1) (zz_wiT w8) ?_
      refine lv_if_ne (tgt := 22) hx hb dX6_without_16 (by decide) (fun _ => ?_) (fun h => absurd h (by decide))
      refine lv_aload_n hx hb dX6_without_22 rfl (lv_at hl 0 rfl) ?_
      refine zz_get X Z8 0 rfl rfl (fun w h => List.mem_cons_of_mem _ (List.mem_append_left _ (List.mem_append_left _ (List.mem_append_left _ (List.mem_append_right _ h))))) 1 rfl (zz_m 2 rfl) rfl dX6_without_23 ?_
      refine zz_get X Z8 1 rfl rfl (fun w h => List.mem_cons_of_mem _ (List.mem_append_left _ (List.mem_append_left _ (List.mem_append_right _ h)))) 3 rfl (zz_m 3 rfl) rfl dX6_without_26 ?_
      refine lv_if_ne (tgt := 35) hx hb dX6_without_29 (by decide) (fun h => absurd (by decide) h) (fun _ => ?_)
      refine lv_ldc (v := (-1000000005)) hx hb hown (hts _ (zz_m 4 rfl)) dX6_without_32 ?_
      exact zz_iret X hr hlk Z8 () (by simp [sp_without, w4, w8]) [] [] (by decide +kernel) rfl rfl dX6_without_34
    · refine zz_v (v := 0) (zz_wiF w8) ?_
      refine lv_if_ne (tgt := 22) hx hb dX6_without_16 (by decide) (fun h => absurd (by decide) h) (fun _ => ?_)
      refine lv_ldc (v := (-1000000001)) hx hb hown (hts _ (zz_m 1 rfl)) dX6_without_19 ?_
      exact zz_iret X hr hlk Z8 () (by simp [sp_without, w4, w8]) [] [] (by decide +kernel) rfl rfl dX6_without_21
  · refine zz_v (v := 0) (zz_wiF w4) ?_
    refine lv_if_eq (tgt := 19) hx hb dX6_without_7 (by decide) (fun _ => ?_) (fun h => absurd (by decide) h)
    refine lv_ldc (v := (-1000000001)) hx hb hown (hts _ (zz_m 1 rfl)) dX6_without_19 ?_
    exact zz_iret X hr hlk Z4 () (by simp [sp_without, w4]) [] [] (by decide +kernel) rfl rfl dX6_without_21

set_option maxHeartbeats 4000000 in
set_option maxRecDepth 100000 in
theorem c6_why (l : Launch) (D : va_G) (x : Nat) (tx0 : Nat) (nb : Nat) (tb : Nat) (ib : Nat) (ah : Nat) (tp : Nat) (rd : Nat) (sh : Nat) (sl : Nat) (wt : Nat) (ntx : Nat) (nst : Nat) (nct : Nat) (knc : ClassId) (ncf : (Nat → Int32)) (key : Int32) (ancf_0 : ncf 0 = (-1000000005)) (ancf_1 : ncf 1 = (-1000000005)) (ancf_2 : ncf 2 = (-1000000005)) : zz_MI l yX6_why wsX6_why 1 22 0 0 D [.ref x, .int key] [(x, .inr (6, [.ref tx0, .ref nb, .ref tb, .ref ib, .ref ah, .ref tp, .ref rd, .ref sh, .ref sl, .ref wt, .int 0, .int 0, .int 0, .int 0, .int 0])), (nb, .inr (0, [.ref ntx, .ref nst, .ref nct, .int 0, .int 0, .int 3, .int 0, .int 0, .int 10, .int 0, .int 0, .int 0, .int 0, .int 1])), (nct, .inl (knc, 3, .inl ncf))] [(knc, .int)] (fun (r : Int32) (u : Unit) => r = sp_why key) (fun (u : Unit) => []) (fun (u : Unit) => []) := by
  intro sz
  refine Met.ofW (cc := cX6_why) (maxL := 2) (ret := (some .int)) (by decide) rfl ?_
  intro p e s m args below meth c s₁ B hml hv
  obtain ⟨rfl, hC⟩ := hv
  have hx := B.exec
  have hb := B.bytes
  have hr := B.returns
  have hts := atoms_spec (ws := wsX6_why) B.pre
  have hown : s.vm.findClass RX6 = some m.cls := findClass_of_methodNamed B.named
  have hlk := B.notSynchronized
  have X : CallFix p m c cX6_why 2 s _ wsX6_why RX6 := ⟨hx, hb, hml, hown, hts⟩
  have Z := zz_enter hC
  generalize va_A [(x, .inr (6, [.ref tx0, .ref nb, .ref tb, .ref ib, .ref ah, .ref tp, .ref rd, .ref sh, .ref sl, .ref wt, .int 0, .int 0, .int 0, .int 0, .int 0])), (nb, .inr (0, [.ref ntx, .ref nst, .ref nct, .int 0, .int 0, .int 3, .int 0, .int 0, .int 10, .int 0, .int 0, .int 0, .int 0, .int 1])), (nct, .inl (knc, 3, .inl ncf))] sz = A at Z ⊢
  have hl := lv_entry ([.ref x, .int key]) (n := 2) (Nat.le_of_ble_eq_true rfl)
  rw [lg_entry_eq]
  generalize (lg_sl ([.ref x, .int key]) ++ List.replicate (2 - (lg_sl ([.ref x, .int key])).length) Slot.unset).toArray = ls at hl ⊢
  have hl : lv_has ls 2 [(0, .ref x), (1, .int key)] := hl
  refine lv_iload_n hx hb dX6_why_0 rfl (lv_at hl 1 rfl) ?_
  refine lv_iconst (v := 0) hx hb dX6_why_1 (by decide) ?_
  refine lv_iconst (v := 2) hx hb dX6_why_2 (by decide) ?_
  refine zz_ci (WC := []) (TC := []) (WR := [(x, .inr (6, [.ref tx0, .ref nb, .ref tb, .ref ib, .ref ah, .ref tp, .ref rd, .ref sh, .ref sl, .ref wt, .int 0, .int 0, .int 0, .int 0, .int 0])), (nb, .inr (0, [.ref ntx, .ref nst, .ref nct, .int 0, .int 0, .int 3, .int 0, .int 0, .int 10, .int 0, .int 0, .int 0, .int 0, .int 1])), (nct, .inl (knc, 3, .inl ncf))]) (TR := [(knc, .int)]) (k := 0) (n := 0) Z [] [0, 1, 2] [] [0] rfl rfl (by decide +kernel) (by decide +kernel) (by decide +kernel) rfl rfl (fun Zc => va_runS (As := [.int key, .int 0, .int 2]) (rest := []) X (c_within l D key 0 2 s.heap.size) (va_cwS 3 hts gX6_why_X6_within rfl rfl rfl zh_X6_within ⟨Nat.le_of_ble_eq_true rfl, Nat.le_of_ble_eq_true rfl⟩) (zz_pS Zc) rfl rfl hl.1 rfl (lv_room (Nat.le_of_ble_eq_true rfl)) dX6_why_3 ⟨Nat.le_of_ble_eq_true rfl, Nat.le_of_ble_eq_true rfl⟩) rfl rfl (fun r3 u1 H1 locs2 hw2 Z3 => ?_)
  clear Z
  subst r3
  have Z4 : zz_S D A s [(x, .inr (6, [.ref tx0, .ref nb, .ref tb, .ref ib, .ref ah, .ref tp, .ref rd, .ref sh, .ref sl, .ref wt, .int 0, .int 0, .int 0, .int 0, .int 0])), (nb, .inr (0, [.ref ntx, .ref nst, .ref nct, .int 0, .int 0, .int 3, .int 0, .int 0, .int 10, .int 0, .int 0, .int 0, .int 0, .int 1])), (nct, .inl (knc, 3, .inl ncf))] [(knc, .int)] H1 locs2 := Z3
  clear Z3
  by_cases w4 : 0 ≤ key ∧ key ≤ 2
  · obtain ⟨j, hj, e5⟩ := zz_rng 2 w4 (by decide)
    rcases (show j = 0 ∨ j = 1 ∨ j = 2 by omega) with rfl | rfl | rfl
    · have e5 : key = 0 := e5
      subst e5
      refine zz_v (v := 1) (by decide) ?_
      refine lv_if_eq (tgt := 21) hx hb dX6_why_6 (by decide) (fun h => absurd h (by decide)) (fun _ => ?_)
      refine lv_aload_n hx hb dX6_why_9 rfl (lv_at hl 0 rfl) ?_
      refine zz_get X Z4 0 rfl rfl (fun w h => List.mem_cons_of_mem _ (List.mem_append_left _ (List.mem_append_right _ h))) 1 rfl (zz_m 1 rfl) rfl dX6_why_10 ?_
      refine zz_get X Z4 1 rfl rfl (fun w h => List.mem_cons_of_mem _ (List.mem_append_right _ h)) 2 rfl (zz_m 2 rfl) rfl dX6_why_13 ?_
      refine lv_iload_n hx hb dX6_why_16 rfl (lv_at hl 1 rfl) ?_
      refine zz_ild X Z4 2 0 rfl rfl (zz_in 0 3 rfl) dX6_why_17 ?_
      refine zz_v (v := (-1000000005)) ancf_0 ?_
      refine lv_goto (tgt := 23) hx hb dX6_why_18 (by decide) ?_
      exact zz_iret X hr hlk Z4 () (by simp [sp_why]) [] [] (by decide +kernel) rfl rfl dX6_why_23
    · have e5 : key = 1 := e5
      subst e5
      refine zz_v (v := 1) (by decide) ?_
      refine lv_if_eq (tgt := 21) hx hb dX6_why_6 (by decide) (fun h => absurd h (by decide)) (fun _ => ?_)
      refine lv_aload_n hx hb dX6_why_9 rfl (lv_at hl 0 rfl) ?_
      refine zz_get X Z4 0 rfl rfl (fun w h => List.mem_cons_of_mem _ (List.mem_append_left _ (List.mem_append_right _ h))) 1 rfl (zz_m 1 rfl) rfl dX6_why_10 ?_
      refine zz_get X Z4 1 rfl rfl (fun w h => List.mem_cons_of_mem _ (List.mem_append_right _ h)) 2 rfl (zz_m 2 rfl) rfl dX6_why_13 ?_
      refine lv_iload_n hx hb dX6_why_16 rfl (lv_at hl 1 rfl) ?_
      refine zz_ild X Z4 2 0 rfl rfl (zz_in 1 3 rfl) dX6_why_17 ?_
      refine zz_v (v := (-1000000005)) ancf_1 ?_
      refine lv_goto (tgt := 23) hx hb dX6_why_18 (by decide) ?_
      exact zz_iret X hr hlk Z4 () (by simp [sp_why]) [] [] (by decide +kernel) rfl rfl dX6_why_23
    · have e5 : key = 2 := e5
      subst e5
      refine zz_v (v := 1) (by decide) ?_
      refine lv_if_eq (tgt := 21) hx hb dX6_why_6 (by decide) (fun h => absurd h (by decide)) (fun _ => ?_)
      refine lv_aload_n hx hb dX6_why_9 rfl (lv_at hl 0 rfl) ?_
      refine zz_get X Z4 0 rfl rfl (fun w h => List.mem_cons_of_mem _ (List.mem_append_left _ (List.mem_append_right _ h))) 1 rfl (zz_m 1 rfl) rfl dX6_why_10 ?_
      refine zz_get X Z4 1 rfl rfl (fun w h => List.mem_cons_of_mem _ (List.mem_append_right _ h)) 2 rfl (zz_m 2 rfl) rfl dX6_why_13 ?_
      refine lv_iload_n hx hb dX6_why_16 rfl (lv_at hl 1 rfl) ?_
      refine zz_ild X Z4 2 0 rfl rfl (zz_in 2 3 rfl) dX6_why_17 ?_
      refine zz_v (v := (-1000000005)) ancf_2 ?_
      refine lv_goto (tgt := 23) hx hb dX6_why_18 (by decide) ?_
      exact zz_iret X hr hlk Z4 () (by simp [sp_why]) [] [] (by decide +kernel) rfl rfl dX6_why_23
  · refine zz_v (v := 0) (zz_wiF w4) ?_
    refine lv_if_eq (tgt := 21) hx hb dX6_why_6 (by decide) (fun _ => ?_) (fun h => absurd (by decide) h)
    refine lv_ldc (v := (-1000000001)) hx hb hown (hts _ (zz_m 3 rfl)) dX6_why_21 ?_
    exact zz_iret X hr hlk Z4 () (by simp [sp_why, w4]) [] [] (by decide +kernel) rfl rfl dX6_why_23

set_option maxHeartbeats 4000000 in
set_option maxRecDepth 100000 in
theorem c6_fee (l : Launch) (D : va_G) (x : Nat) (tx0 : Nat) (nb : Nat) (tb : Nat) (ib : Nat) (ah : Nat) (tp : Nat) (rd : Nat) (sh : Nat) (sl : Nat) (wt : Nat) (ntx : Nat) (nst : Nat) (nct : Nat) (knc : ClassId) (ncf : (Nat → Int32)) (ancf_0 : ncf 0 = (-1000000005)) (ancf_1 : ncf 1 = (-1000000005)) (ancf_2 : ncf 2 = (-1000000005)) : zz_MI l yX6_fee wsX6_fee 1 22 0 0 D [.ref x] [(x, .inr (6, [.ref tx0, .ref nb, .ref tb, .ref ib, .ref ah, .ref tp, .ref rd, .ref sh, .ref sl, .ref wt, .int 0, .int 0, .int 0, .int 0, .int 0])), (nb, .inr (0, [.ref ntx, .ref nst, .ref nct, .int 0, .int 0, .int 3, .int 0, .int 0, .int 10, .int 0, .int 0, .int 0, .int 0, .int 1])), (nct, .inl (knc, 3, .inl ncf))] [(knc, .int)] (fun (r : Int32) (u : Unit) => r = 0) (fun (u : Unit) => []) (fun (u : Unit) => []) := by
  intro sz
  refine Met.ofW (cc := cX6_fee) (maxL := 2) (ret := (some .int)) (by decide) rfl ?_
  intro p e s m args below meth c s₁ B hml hv
  obtain ⟨rfl, hC⟩ := hv
  have hx := B.exec
  have hb := B.bytes
  have hr := B.returns
  have hts := atoms_spec (ws := wsX6_fee) B.pre
  have hown : s.vm.findClass RX6 = some m.cls := findClass_of_methodNamed B.named
  have hlk := B.notSynchronized
  have X : CallFix p m c cX6_fee 2 s _ wsX6_fee RX6 := ⟨hx, hb, hml, hown, hts⟩
  have Z := zz_enter hC
  generalize va_A [(x, .inr (6, [.ref tx0, .ref nb, .ref tb, .ref ib, .ref ah, .ref tp, .ref rd, .ref sh, .ref sl, .ref wt, .int 0, .int 0, .int 0, .int 0, .int 0])), (nb, .inr (0, [.ref ntx, .ref nst, .ref nct, .int 0, .int 0, .int 3, .int 0, .int 0, .int 10, .int 0, .int 0, .int 0, .int 0, .int 1])), (nct, .inl (knc, 3, .inl ncf))] sz = A at Z ⊢
  have hl := lv_entry ([.ref x]) (n := 2) (Nat.le_of_ble_eq_true rfl)
  rw [lg_entry_eq]
  generalize (lg_sl ([.ref x]) ++ List.replicate (2 - (lg_sl ([.ref x])).length) Slot.unset).toArray = ls at hl ⊢
  have hl : lv_has ls 2 [(0, .ref x)] := hl
  refine lv_aload_n hx hb dX6_fee_0 rfl (lv_at hl 0 rfl) ?_
  refine zz_get X Z 0 rfl rfl (fun w h => List.mem_cons_of_mem _ (List.mem_append_left _ (List.mem_append_left _ (List.mem_append_right _ h)))) 1 rfl (zz_m 1 rfl) rfl dX6_fee_1 ?_
  refine zz_get X Z 1 rfl rfl (fun w h => List.mem_cons_of_mem _ (List.mem_append_left _ (List.mem_append_right _ h))) 2 rfl (zz_m 2 rfl) rfl dX6_fee_4 ?_
  refine lv_iconst (v := 1) hx hb dX6_fee_7 (by decide) ?_
  refine zz_ild X Z 2 0 rfl rfl (zz_in 1 3 rfl) dX6_fee_8 ?_
  refine zz_v (v := (-1000000005)) ancf_1 ?_
  refine lv_istore_n (lv' := [(1, .int (-1000000005)), (0, .ref x)]) hx hb dX6_fee_9 rfl hl (by decide) rfl (fun ls1 hl2 => ?_)
  clear hl
  refine lv_iload_n hx hb dX6_fee_10 rfl (lv_at hl2 0 rfl) ?_
  refine lv_iconst (v := 0) hx hb dX6_fee_11 (by decide) ?_
  refine lv_bipush (v := 13) hx hb dX6_fee_12 (by decide) ?_
  refine zz_ci (WC := []) (TC := []) (WR := [(x, .inr (6, [.ref tx0, .ref nb, .ref tb, .ref ib, .ref ah, .ref tp, .ref rd, .ref sh, .ref sl, .ref wt, .int 0, .int 0, .int 0, .int 0, .int 0])), (nb, .inr (0, [.ref ntx, .ref nst, .ref nct, .int 0, .int 0, .int 3, .int 0, .int 0, .int 10, .int 0, .int 0, .int 0, .int 0, .int 1])), (nct, .inl (knc, 3, .inl ncf))]) (TR := [(knc, .int)]) (k := 0) (n := 0) Z [] [0, 1, 2] [] [0] rfl rfl (by decide +kernel) (by decide +kernel) (by decide +kernel) rfl rfl (fun Zc => va_runS (As := [.int (-1000000005), .int 0, .int 13]) (rest := []) X (c_within l D (-1000000005) 0 13 s.heap.size) (va_cwS 3 hts gX6_fee_X6_within rfl rfl rfl zh_X6_within ⟨Nat.le_of_ble_eq_true rfl, Nat.le_of_ble_eq_true rfl⟩) (zz_pS Zc) rfl rfl hl2.1 rfl (lv_room (Nat.le_of_ble_eq_true rfl)) dX6_fee_14 ⟨Nat.le_of_ble_eq_true rfl, Nat.le_of_ble_eq_true rfl⟩) rfl rfl (fun r3 u1 H3 locs4 hw2 Z5 => ?_)
  clear Z
  subst r3
  have Z6 : zz_S D A s [(x, .inr (6, [.ref tx0, .ref nb, .ref tb, .ref ib, .ref ah, .ref tp, .ref rd, .ref sh, .ref sl, .ref wt, .int 0, .int 0, .int 0, .int 0, .int 0])), (nb, .inr (0, [.ref ntx, .ref nst, .ref nct, .int 0, .int 0, .int 3, .int 0, .int 0, .int 10, .int 0, .int 0, .int 0, .int 0, .int 1])), (nct, .inl (knc, 3, .inl ncf))] [(knc, .int)] H3 locs4 := Z5
  clear Z5
  refine zz_v (v := 0) (by decide) ?_
  refine lv_if_ne (tgt := 28) hx hb dX6_fee_17 (by decide) (fun h => absurd (by decide) h) (fun _ => ?_)
  refine lv_aload_n hx hb dX6_fee_20 rfl (lv_at hl2 1 rfl) ?_
  refine zz_get X Z6 0 rfl rfl (fun w h => List.mem_cons_of_mem _ (List.mem_append_left _ (List.mem_append_left _ (List.mem_append_right _ h)))) 1 rfl (zz_m 1 rfl) rfl dX6_fee_21 ?_
  refine zz_get X Z6 1 rfl rfl (fun w h => List.mem_cons_of_mem _ (List.mem_append_left _ (List.mem_append_right _ h))) 10 rfl (zz_m 3 rfl) rfl dX6_fee_24 ?_
  exact zz_iret X hr hlk Z6 () rfl [] [] (by decide +kernel) rfl rfl dX6_fee_27

set_option maxHeartbeats 4000000 in
set_option maxRecDepth 100000 in
theorem c_isMissing (l : Launch) (D : va_G) (b : Nat) (le : Int32) (va : Nat)  : zz_MI l yX2_isMissing wsX2_isMissing 0 0 0 0 D [.ref b] [(b, .inr (2, [.int (-1), .int le, .ref va]))] [] (fun (r : Int32) (u : Unit) => r = 1) (fun (u : Unit) => [(b, .inr (2, [.int (-1), .int le, .ref va]))]) (fun (u : Unit) => []) := by
  intro sz
  refine Met.ofW (cc := cX2_isMissing) (maxL := 1) (ret := (some .boolean)) (by decide) rfl ?_
  intro p e s m args below meth c s₁ B hml hv
  obtain ⟨rfl, hC⟩ := hv
  have hx := B.exec
  have hb := B.bytes
  have hr := B.returns
  have hts := atoms_spec (ws := wsX2_isMissing) B.pre
  have hown : s.vm.findClass RX2 = some m.cls := findClass_of_methodNamed B.named
  have hlk := B.notSynchronized
  have X : CallFix p m c cX2_isMissing 1 s _ wsX2_isMissing RX2 := ⟨hx, hb, hml, hown, hts⟩
  have Z := zz_enter hC
  generalize va_A [(b, .inr (2, [.int (-1), .int le, .ref va]))] sz = A at Z ⊢
  have hl := lv_entry ([.ref b]) (n := 1) (Nat.le_of_ble_eq_true rfl)
  rw [lg_entry_eq]
  generalize (lg_sl ([.ref b]) ++ List.replicate (1 - (lg_sl ([.ref b])).length) Slot.unset).toArray = ls at hl ⊢
  have hl : lv_has ls 1 [(0, .ref b)] := hl
  refine lv_aload_n hx hb dX2_isMissing_0 rfl (lv_at hl 0 rfl) ?_
  refine zz_get X Z 0 rfl rfl (fun w h => List.mem_cons_of_mem _ (List.mem_append_right _ h)) 0 rfl (zz_m 1 rfl) rfl dX2_isMissing_1 ?_
  refine lv_iconst (v := (-1)) hx hb dX2_isMissing_4 (by decide) ?_
  refine lv_icmp_ne (tgt := 12) hx hb dX2_isMissing_5 (by decide) (fun h => absurd (by decide) h) (fun _ => ?_)
  refine lv_iconst (v := 1) hx hb dX2_isMissing_8 (by decide) ?_
  refine lv_goto (tgt := 13) hx hb dX2_isMissing_9 (by decide) ?_
  exact zz_zret X hr hlk Z (by decide) () rfl [0] [] (by decide +kernel) rfl rfl dX2_isMissing_13

set_option maxHeartbeats 4000000 in
set_option maxRecDepth 100000 in
theorem c6_mark (l : Launch) (D : va_G) (x : Nat) (tx0 : Nat) (nb : Nat) (tb : Nat) (ib : Nat) (ah : Nat) (tp : Nat) (rd : Nat) (sh : Nat) (sl : Nat) (wt : Nat) (ksh : ClassId) (shf : (Nat → Option Nat)) (h0 : Nat) (h1 : Nat) (h2 : Nat) (h3 : Nat) (hv0 : Nat) (hv1 : Nat) (hv2 : Nat) (hv3 : Nat) (sheet : Int32) (place : Int32) (v : Int32) (ashf_0 : va_rf (shf 0) = .ref h0) (ashf_1 : va_rf (shf 1) = .ref h1) (ashf_2 : va_rf (shf 2) = .ref h2) (ashf_3 : va_rf (shf 3) = .ref h3) : zz_MI l yX6_mark wsX6_mark 2 42 0 0 D [.ref x, .int sheet, .int place, .int v] [(x, .inr (6, [.ref tx0, .ref nb, .ref tb, .ref ib, .ref ah, .ref tp, .ref rd, .ref sh, .ref sl, .ref wt, .int 0, .int 0, .int 0, .int 0, .int 0])), (sh, .inl (ksh, 4, .inr (.inr (.inr (.inr shf))))), (h0, .inr (2, [.int (-1), .int 0, .ref hv0])), (h1, .inr (2, [.int (-1), .int 0, .ref hv1])), (h2, .inr (2, [.int (-1), .int 0, .ref hv2])), (h3, .inr (2, [.int (-1), .int 0, .ref hv3]))] [(ksh, .object RX2)] (fun (r : Int32) (u : Unit) => r = sp_sh sheet) (fun (u : Unit) => []) (fun (u : Unit) => []) := by
  intro sz
  refine Met.ofW (cc := cX6_mark) (maxL := 5) (ret := (some .int)) (by decide) rfl ?_
  intro p e s m args below meth c s₁ B hml hv
  obtain ⟨rfl, hC⟩ := hv
  have hx := B.exec
  have hb := B.bytes
  have hr := B.returns
  have hts := atoms_spec (ws := wsX6_mark) B.pre
  have hown : s.vm.findClass RX6 = some m.cls := findClass_of_methodNamed B.named
  have hlk := B.notSynchronized
  have X : CallFix p m c cX6_mark 5 s _ wsX6_mark RX6 := ⟨hx, hb, hml, hown, hts⟩
  have Z := zz_enter hC
  generalize va_A [(x, .inr (6, [.ref tx0, .ref nb, .ref tb, .ref ib, .ref ah, .ref tp, .ref rd, .ref sh, .ref sl, .ref wt, .int 0, .int 0, .int 0, .int 0, .int 0])), (sh, .inl (ksh, 4, .inr (.inr (.inr (.inr shf))))), (h0, .inr (2, [.int (-1), .int 0, .ref hv0])), (h1, .inr (2, [.int (-1), .int 0, .ref hv1])), (h2, .inr (2, [.int (-1), .int 0, .ref hv2])), (h3, .inr (2, [.int (-1), .int 0, .ref hv3]))] sz = A at Z ⊢
  have hl := lv_entry ([.ref x, .int sheet, .int place, .int v]) (n := 5) (Nat.le_of_ble_eq_true rfl)
  rw [lg_entry_eq]
  generalize (lg_sl ([.ref x, .int sheet, .int place, .int v]) ++ List.replicate (5 - (lg_sl ([.ref x, .int sheet, .int place, .int v])).length) Slot.unset).toArray = ls at hl ⊢
  have hl : lv_has ls 5 [(0, .ref x), (1, .int sheet), (2, .int place), (3, .int v)] := hl
  refine lv_iload_n hx hb dX6_mark_0 rfl (lv_at hl 1 rfl) ?_
  refine zz_ci (WC := []) (TC := []) (WR := [(x, .inr (6, [.ref tx0, .ref nb, .ref tb, .ref ib, .ref ah, .ref tp, .ref rd, .ref sh, .ref sl, .ref wt, .int 0, .int 0, .int 0, .int 0, .int 0])), (sh, .inl (ksh, 4, .inr (.inr (.inr (.inr shf))))), (h0, .inr (2, [.int (-1), .int 0, .ref hv0])), (h1, .inr (2, [.int (-1), .int 0, .ref hv1])), (h2, .inr (2, [.int (-1), .int 0, .ref hv2])), (h3, .inr (2, [.int (-1), .int 0, .ref hv3]))]) (TR := [(ksh, .object RX2)]) (k := 0) (n := 0) Z [] [0, 1, 2, 3, 4, 5] [] [0] rfl rfl (by decide +kernel) (by decide +kernel) (by decide +kernel) rfl rfl (fun Zc => va_runS (As := [.int sheet]) (rest := []) X (c_isSheet l D sheet s.heap.size) (va_cwS 1 hts gX6_mark_X6_isSheet rfl rfl rfl zh_X6_isSheet ⟨Nat.le_of_ble_eq_true rfl, Nat.le_of_ble_eq_true rfl⟩) (zz_pS Zc) rfl rfl hl.1 rfl (lv_room (Nat.le_of_ble_eq_true rfl)) dX6_mark_1 ⟨Nat.le_of_ble_eq_true rfl, Nat.le_of_ble_eq_true rfl⟩) rfl rfl (fun r3 u1 H1 locs2 hw2 Z3 => ?_)
  clear Z
  subst r3
  have Z4 : zz_S D A s [(x, .inr (6, [.ref tx0, .ref nb, .ref tb, .ref ib, .ref ah, .ref tp, .ref rd, .ref sh, .ref sl, .ref wt, .int 0, .int 0, .int 0, .int 0, .int 0])), (sh, .inl (ksh, 4, .inr (.inr (.inr (.inr shf))))), (h0, .inr (2, [.int (-1), .int 0, .ref hv0])), (h1, .inr (2, [.int (-1), .int 0, .ref hv1])), (h2, .inr (2, [.int (-1), .int 0, .ref hv2])), (h3, .inr (2, [.int (-1), .int 0, .ref hv3]))] [(ksh, .object RX2)] H1 locs2 := Z3
  clear Z3
  by_cases w4 : 0 ≤ sheet ∧ sheet ≤ 3
  · obtain ⟨j, hj, e5⟩ := zz_rng 3 w4 (by decide)
    rcases (show j = 0 ∨ j = 1 ∨ j = 2 ∨ j = 3 by omega) with rfl | rfl | rfl | rfl
    · have e5 : sheet = 0 := e5
      subst e5
      refine zz_v (v := 1) (by decide) ?_
      refine lv_if_ne (tgt := 10) hx hb dX6_mark_4 (by decide) (fun _ => ?_) (fun h => absurd h (by decide))
      refine lv_aload_n hx hb dX6_mark_10 rfl (lv_at hl 0 rfl) ?_
      refine zz_get X Z4 0 rfl rfl (fun w h => List.mem_cons_of_mem _ (List.mem_append_left _ (List.mem_append_right _ h))) 7 rfl (zz_m 2 rfl) rfl dX6_mark_11 ?_
      refine lv_iload_n hx hb dX6_mark_14 rfl (lv_at hl 1 rfl) ?_
      refine zz_ald X Z4 1 0 rfl rfl (zz_in 0 4 rfl) (v := .ref h0) ashf_0 dX6_mark_15 ?_
      refine lv_astore (lv' := [(4, .ref h0), (0, .ref x), (1, .int 0), (2, .int place), (3, .int v)]) hx hb dX6_mark_16 hl (by decide) rfl (fun ls5 hl6 => ?_)
      clear hl
      refine lv_aload hx hb dX6_mark_18 (lv_at hl6 0 rfl) ?_
      refine zz_ci (WC := [(h0, .inr (2, [.int (-1), .int 0, .ref hv0]))]) (TC := []) (WR := [(x, .inr (6, [.ref tx0, .ref nb, .ref tb, .ref ib, .ref ah, .ref tp, .ref rd, .ref sh, .ref sl, .ref wt, .int 0, .int 0, .int 0, .int 0, .int 0])), (sh, .inl (ksh, 4, .inr (.inr (.inr (.inr shf))))), (h1, .inr (2, [.int (-1), .int 0, .ref hv1])), (h2, .inr (2, [.int (-1), .int 0, .ref hv2])), (h3, .inr (2, [.int (-1), .int 0, .ref hv3]))]) (TR := [(ksh, .object RX2)]) (k := 0) (n := 0) Z4 [2] [0, 1, 3, 4, 5] [] [0] rfl rfl (by decide +kernel) (by decide +kernel) (by decide +kernel) rfl rfl (fun Zc => va_runV (As := []) (rest := []) X (c_isMissing l D h0 0 hv0 H1.size) (cwV 0 hts gX6_mark_X2_isMissing rfl rfl rfl ⟨rfl, zh_X2_isMissing⟩ ⟨Nat.le_of_ble_eq_true rfl, Nat.le_of_ble_eq_true rfl⟩) (zz_pV (ci := 2) Zc 0 rfl rfl) rfl rfl hl6.1 rfl (lv_room (Nat.le_of_ble_eq_true rfl)) dX6_mark_20 ⟨Nat.le_of_ble_eq_true rfl, Nat.le_of_ble_eq_true rfl⟩) rfl rfl (fun r8 u6 H7 locs8 hw7 Z9 => ?_)
      clear Z4
      have hw7 : r8 = 1 := hw7.trans (by decide)
      subst r8
      have Z10 : zz_S D A s [(x, .inr (6, [.ref tx0, .ref nb, .ref tb, .ref ib, .ref ah, .ref tp, .ref rd, .ref sh, .ref sl, .ref wt, .int 0, .int 0, .int 0, .int 0, .int 0])), (sh, .inl (ksh, 4, .inr (.inr (.inr (.inr shf))))), (h1, .inr (2, [.int (-1), .int 0, .ref hv1])), (h2, .inr (2, [.int (-1), .int 0, .ref hv2])), (h3, .inr (2, [.int (-1), .int 0, .ref hv3])), (h0, .inr (2, [.int (-1), .int 0, .ref hv0]))] [(ksh, .object RX2)] H7 locs8 := Z9
      clear Z9
      refine lv_if_eq (tgt := 29) hx hb dX6_mark_23 (by decide) (fun h => absurd h (by decide)) (fun _ => ?_)
      refine lv_ldc (v := (-1000000011)) hx hb hown (hts _ (zz_m 3 rfl)) dX6_mark_26 ?_
      exact zz_iret X hr hlk Z10 () (by simp [sp_sh]) [] [] (by decide +kernel) rfl rfl dX6_mark_28
    · have e5 : sheet = 1 := e5
      subst e5
      refine zz_v (v := 1) (by decide) ?_
      refine lv_if_ne (tgt := 10) hx hb dX6_mark_4 (by decide) (fun _ => ?_) (fun h => absurd h (by decide))
      refine lv_aload_n hx hb dX6_mark_10 rfl (lv_at hl 0 rfl) ?_
      refine zz_get X Z4 0 rfl rfl (fun w h => List.mem_cons_of_mem _ (List.mem_append_left _ (List.mem_append_right _ h))) 7 rfl (zz_m 2 rfl) rfl dX6_mark_11 ?_
      refine lv_iload_n hx hb dX6_mark_14 rfl (lv_at hl 1 rfl) ?_
      refine zz_ald X Z4 1 0 rfl rfl (zz_in 1 4 rfl) (v := .ref h1) ashf_1 dX6_mark_15 ?_
      refine lv_astore (lv' := [(4, .ref h1), (0, .ref x), (1, .int 1), (2, .int place), (3, .int v)]) hx hb dX6_mark_16 hl (by decide) rfl (fun ls11 hl12 => ?_)
      clear hl
      refine lv_aload hx hb dX6_mark_18 (lv_at hl12 0 rfl) ?_
      refine zz_ci (WC := [(h1, .inr (2, [.int (-1), .int 0, .ref hv1]))]) (TC := []) (WR := [(x, .inr (6, [.ref tx0, .ref nb, .ref tb, .ref ib, .ref ah, .ref tp, .ref rd, .ref sh, .ref sl, .ref wt, .int 0, .int 0, .int 0, .int 0, .int 0])), (sh, .inl (ksh, 4, .inr (.inr (.inr (.inr shf))))), (h0, .inr (2, [.int (-1), .int 0, .ref hv0])), (h2, .inr (2, [.int (-1), .int 0, .ref hv2])), (h3, .inr (2, [.int (-1), .int 0, .ref hv3]))]) (TR := [(ksh, .object RX2)]) (k := 0) (n := 0) Z4 [3] [0, 1, 2, 4, 5] [] [0] rfl rfl (by decide +kernel) (by decide +kernel) (by decide +kernel) rfl rfl (fun Zc => va_runV (As := []) (rest := []) X (c_isMissing l D h1 0 hv1 H1.size) (cwV 0 hts gX6_mark_X2_isMissing rfl rfl rfl ⟨rfl, zh_X2_isMissing⟩ ⟨Nat.le_of_ble_eq_true rfl, Nat.le_of_ble_eq_true rfl⟩) (zz_pV (ci := 2) Zc 0 rfl rfl) rfl rfl hl12.1 rfl (lv_room (Nat.le_of_ble_eq_true rfl)) dX6_mark_20 ⟨Nat.le_of_ble_eq_true rfl, Nat.le_of_ble_eq_true rfl⟩) rfl rfl (fun r11 u9 H13 locs14 hw10 Z15 => ?_)
      clear Z4
      have hw10 : r11 = 1 := hw10.trans (by decide)
      subst r11
      have Z16 : zz_S D A s [(x, .inr (6, [.ref tx0, .ref nb, .ref tb, .ref ib, .ref ah, .ref tp, .ref rd, .ref sh, .ref sl, .ref wt, .int 0, .int 0, .int 0, .int 0, .int 0])), (sh, .inl (ksh, 4, .inr (.inr (.inr (.inr shf))))), (h0, .inr (2, [.int (-1), .int 0, .ref hv0])), (h2, .inr (2, [.int (-1), .int 0, .ref hv2])), (h3, .inr (2, [.int (-1), .int 0, .ref hv3])), (h1, .inr (2, [.int (-1), .int 0, .ref hv1]))] [(ksh, .object RX2)] H13 locs14 := Z15
      clear Z15
      refine lv_if_eq (tgt := 29) hx hb dX6_mark_23 (by decide) (fun h => absurd h (by decide)) (fun _ => ?_)
      refine lv_ldc (v := (-1000000011)) hx hb hown (hts _ (zz_m 3 rfl)) dX6_mark_26 ?_
      exact zz_iret X hr hlk Z16 () (by simp [sp_sh]) [] [] (by decide +kernel) rfl rfl dX6_mark_28
    · have e5 : sheet = 2 := e5
      subst e5
      refine zz_v (v := 1) (by decide) ?_
      refine lv_if_ne (tgt := 10) hx hb dX6_mark_4 (by decide) (fun _ => ?_) (fun h => absurd h (by decide))
      refine lv_aload_n hx hb dX6_mark_10 rfl (lv_at hl 0 rfl) ?_
      refine zz_get X Z4 0 rfl rfl (fun w h => List.mem_cons_of_mem _ (List.mem_append_left _ (List.mem_append_right _ h))) 7 rfl (zz_m 2 rfl) rfl dX6_mark_11 ?_
      refine lv_iload_n hx hb dX6_mark_14 rfl (lv_at hl 1 rfl) ?_
      refine zz_ald X Z4 1 0 rfl rfl (zz_in 2 4 rfl) (v := .ref h2) ashf_2 dX6_mark_15 ?_
      refine lv_astore (lv' := [(4, .ref h2), (0, .ref x), (1, .int 2), (2, .int place), (3, .int v)]) hx hb dX6_mark_16 hl (by decide) rfl (fun ls17 hl18 => ?_)
      clear hl
      refine lv_aload hx hb dX6_mark_18 (lv_at hl18 0 rfl) ?_
      refine zz_ci (WC := [(h2, .inr (2, [.int (-1), .int 0, .ref hv2]))]) (TC := []) (WR := [(x, .inr (6, [.ref tx0, .ref nb, .ref tb, .ref ib, .ref ah, .ref tp, .ref rd, .ref sh, .ref sl, .ref wt, .int 0, .int 0, .int 0, .int 0, .int 0])), (sh, .inl (ksh, 4, .inr (.inr (.inr (.inr shf))))), (h0, .inr (2, [.int (-1), .int 0, .ref hv0])), (h1, .inr (2, [.int (-1), .int 0, .ref hv1])), (h3, .inr (2, [.int (-1), .int 0, .ref hv3]))]) (TR := [(ksh, .object RX2)]) (k := 0) (n := 0) Z4 [4] [0, 1, 2, 3, 5] [] [0] rfl rfl (by decide +kernel) (by decide +kernel) (by decide +kernel) rfl rfl (fun Zc => va_runV (As := []) (rest := []) X (c_isMissing l D h2 0 hv2 H1.size) (cwV 0 hts gX6_mark_X2_isMissing rfl rfl rfl ⟨rfl, zh_X2_isMissing⟩ ⟨Nat.le_of_ble_eq_true rfl, Nat.le_of_ble_eq_true rfl⟩) (zz_pV (ci := 2) Zc 0 rfl rfl) rfl rfl hl18.1 rfl (lv_room (Nat.le_of_ble_eq_true rfl)) dX6_mark_20 ⟨Nat.le_of_ble_eq_true rfl, Nat.le_of_ble_eq_true rfl⟩) rfl rfl (fun r14 u12 H19 locs20 hw13 Z21 => ?_)
      clear Z4
      have hw13 : r14 = 1 := hw13.trans (by decide)
      subst r14
      have Z22 : zz_S D A s [(x, .inr (6, [.ref tx0, .ref nb, .ref tb, .ref ib, .ref ah, .ref tp, .ref rd, .ref sh, .ref sl, .ref wt, .int 0, .int 0, .int 0, .int 0, .int 0])), (sh, .inl (ksh, 4, .inr (.inr (.inr (.inr shf))))), (h0, .inr (2, [.int (-1), .int 0, .ref hv0])), (h1, .inr (2, [.int (-1), .int 0, .ref hv1])), (h3, .inr (2, [.int (-1), .int 0, .ref hv3])), (h2, .inr (2, [.int (-1), .int 0, .ref hv2]))] [(ksh, .object RX2)] H19 locs20 := Z21
      clear Z21
      refine lv_if_eq (tgt := 29) hx hb dX6_mark_23 (by decide) (fun h => absurd h (by decide)) (fun _ => ?_)
      refine lv_ldc (v := (-1000000011)) hx hb hown (hts _ (zz_m 3 rfl)) dX6_mark_26 ?_
      exact zz_iret X hr hlk Z22 () (by simp [sp_sh]) [] [] (by decide +kernel) rfl rfl dX6_mark_28
    · have e5 : sheet = 3 := e5
      subst e5
      refine zz_v (v := 1) (by decide) ?_
      refine lv_if_ne (tgt := 10) hx hb dX6_mark_4 (by decide) (fun _ => ?_) (fun h => absurd h (by decide))
      refine lv_aload_n hx hb dX6_mark_10 rfl (lv_at hl 0 rfl) ?_
      refine zz_get X Z4 0 rfl rfl (fun w h => List.mem_cons_of_mem _ (List.mem_append_left _ (List.mem_append_right _ h))) 7 rfl (zz_m 2 rfl) rfl dX6_mark_11 ?_
      refine lv_iload_n hx hb dX6_mark_14 rfl (lv_at hl 1 rfl) ?_
      refine zz_ald X Z4 1 0 rfl rfl (zz_in 3 4 rfl) (v := .ref h3) ashf_3 dX6_mark_15 ?_
      refine lv_astore (lv' := [(4, .ref h3), (0, .ref x), (1, .int 3), (2, .int place), (3, .int v)]) hx hb dX6_mark_16 hl (by decide) rfl (fun ls23 hl24 => ?_)
      clear hl
      refine lv_aload hx hb dX6_mark_18 (lv_at hl24 0 rfl) ?_
      refine zz_ci (WC := [(h3, .inr (2, [.int (-1), .int 0, .ref hv3]))]) (TC := []) (WR := [(x, .inr (6, [.ref tx0, .ref nb, .ref tb, .ref ib, .ref ah, .ref tp, .ref rd, .ref sh, .ref sl, .ref wt, .int 0, .int 0, .int 0, .int 0, .int 0])), (sh, .inl (ksh, 4, .inr (.inr (.inr (.inr shf))))), (h0, .inr (2, [.int (-1), .int 0, .ref hv0])), (h1, .inr (2, [.int (-1), .int 0, .ref hv1])), (h2, .inr (2, [.int (-1), .int 0, .ref hv2]))]) (TR := [(ksh, .object RX2)]) (k := 0) (n := 0) Z4 [5] [0, 1, 2, 3, 4] [] [0] rfl rfl (by decide +kernel) (by decide +kernel) (by decide +kernel) rfl rfl (fun Zc => va_runV (As := []) (rest := []) X (c_isMissing l D h3 0 hv3 H1.size) (cwV 0 hts gX6_mark_X2_isMissing rfl rfl rfl ⟨rfl, zh_X2_isMissing⟩ ⟨Nat.le_of_ble_eq_true rfl, Nat.le_of_ble_eq_true rfl⟩) (zz_pV (ci := 2) Zc 0 rfl rfl) rfl rfl hl24.1 rfl (lv_room (Nat.le_of_ble_eq_true rfl)) dX6_mark_20 ⟨Nat.le_of_ble_eq_true rfl, Nat.le_of_ble_eq_true rfl⟩) rfl rfl (fun r17 u15 H25 locs26 hw16 Z27 => ?_)
      clear Z4
      have hw16 : r17 = 1 := hw16.trans (by decide)
      subst r17
      have Z28 : zz_S D A s [(x, .inr (6, [.ref tx0, .ref nb, .ref tb, .ref ib, .ref ah, .ref tp, .ref rd, .ref sh, .ref sl, .ref wt, .int 0, .int 0, .int 0, .int 0, .int 0])), (sh, .inl (ksh, 4, .inr (.inr (.inr (.inr shf))))), (h0, .inr (2, [.int (-1), .int 0, .ref hv0])), (h1, .inr (2, [.int (-1), .int 0, .ref hv1])), (h2, .inr (2, [.int (-1), .int 0, .ref hv2])), (h3, .inr (2, [.int (-1), .int 0, .ref hv3]))] [(ksh, .object RX2)] H25 locs26 := Z27
      clear Z27
      refine lv_if_eq (tgt := 29) hx hb dX6_mark_23 (by decide) (fun h => absurd h (by decide)) (fun _ => ?_)
      refine lv_ldc (v := (-1000000011)) hx hb hown (hts _ (zz_m 3 rfl)) dX6_mark_26 ?_
      exact zz_iret X hr hlk Z28 () (by simp [sp_sh]) [] [] (by decide +kernel) rfl rfl dX6_mark_28
  · refine zz_v (v := 0) (zz_wiF w4) ?_
    refine lv_if_ne (tgt := 10) hx hb dX6_mark_4 (by decide) (fun h => absurd (by decide) h) (fun _ => ?_)
    refine lv_ldc (v := (-1000000001)) hx hb hown (hts _ (zz_m 1 rfl)) dX6_mark_7 ?_
    exact zz_iret X hr hlk Z4 () (by simp [sp_sh, w4]) [] [] (by decide +kernel) rfl rfl dX6_mark_9

set_option maxHeartbeats 4000000 in
set_option maxRecDepth 100000 in
theorem c6_pour (l : Launch) (D : va_G) (x : Nat) (tx0 : Nat) (nb : Nat) (tb : Nat) (ib : Nat) (ah : Nat) (tp : Nat) (rd : Nat) (sh : Nat) (sl : Nat) (wt : Nat) (ksh : ClassId) (shf : (Nat → Option Nat)) (h0 : Nat) (h1 : Nat) (h2 : Nat) (h3 : Nat) (hv0 : Nat) (hv1 : Nat) (hv2 : Nat) (hv3 : Nat) (sheet : Int32) (ashf_0 : va_rf (shf 0) = .ref h0) (ashf_1 : va_rf (shf 1) = .ref h1) (ashf_2 : va_rf (shf 2) = .ref h2) (ashf_3 : va_rf (shf 3) = .ref h3) : zz_MI l yX6_pour wsX6_pour 2 42 0 0 D [.ref x, .int sheet] [(x, .inr (6, [.ref tx0, .ref nb, .ref tb, .ref ib, .ref ah, .ref tp, .ref rd, .ref sh, .ref sl, .ref wt, .int 0, .int 0, .int 0, .int 0, .int 0])), (sh, .inl (ksh, 4, .inr (.inr (.inr (.inr shf))))), (h0, .inr (2, [.int (-1), .int 0, .ref hv0])), (h1, .inr (2, [.int (-1), .int 0, .ref hv1])), (h2, .inr (2, [.int (-1), .int 0, .ref hv2])), (h3, .inr (2, [.int (-1), .int 0, .ref hv3]))] [(ksh, .object RX2)] (fun (r : Int32) (u : Unit) => r = sp_sh sheet) (fun (u : Unit) => []) (fun (u : Unit) => []) := by
  intro sz
  refine Met.ofW (cc := cX6_pour) (maxL := 6) (ret := (some .int)) (by decide) rfl ?_
  intro p e s m args below meth c s₁ B hml hv
  obtain ⟨rfl, hC⟩ := hv
  have hx := B.exec
  have hb := B.bytes
  have hr := B.returns
  have hts := atoms_spec (ws := wsX6_pour) B.pre
  have hown : s.vm.findClass RX6 = some m.cls := findClass_of_methodNamed B.named
  have hlk := B.notSynchronized
  have X : CallFix p m c cX6_pour 6 s _ wsX6_pour RX6 := ⟨hx, hb, hml, hown, hts⟩
  have Z := zz_enter hC
  generalize va_A [(x, .inr (6, [.ref tx0, .ref nb, .ref tb, .ref ib, .ref ah, .ref tp, .ref rd, .ref sh, .ref sl, .ref wt, .int 0, .int 0, .int 0, .int 0, .int 0])), (sh, .inl (ksh, 4, .inr (.inr (.inr (.inr shf))))), (h0, .inr (2, [.int (-1), .int 0, .ref hv0])), (h1, .inr (2, [.int (-1), .int 0, .ref hv1])), (h2, .inr (2, [.int (-1), .int 0, .ref hv2])), (h3, .inr (2, [.int (-1), .int 0, .ref hv3]))] sz = A at Z ⊢
  have hl := lv_entry ([.ref x, .int sheet]) (n := 6) (Nat.le_of_ble_eq_true rfl)
  rw [lg_entry_eq]
  generalize (lg_sl ([.ref x, .int sheet]) ++ List.replicate (6 - (lg_sl ([.ref x, .int sheet])).length) Slot.unset).toArray = ls at hl ⊢
  have hl : lv_has ls 6 [(0, .ref x), (1, .int sheet)] := hl
  refine lv_iload_n hx hb dX6_pour_0 rfl (lv_at hl 1 rfl) ?_
  refine zz_ci (WC := []) (TC := []) (WR := [(x, .inr (6, [.ref tx0, .ref nb, .ref tb, .ref ib, .ref ah, .ref tp, .ref rd, .ref sh, .ref sl, .ref wt, .int 0, .int 0, .int 0, .int 0, .int 0])), (sh, .inl (ksh, 4, .inr (.inr (.inr (.inr shf))))), (h0, .inr (2, [.int (-1), .int 0, .ref hv0])), (h1, .inr (2, [.int (-1), .int 0, .ref hv1])), (h2, .inr (2, [.int (-1), .int 0, .ref hv2])), (h3, .inr (2, [.int (-1), .int 0, .ref hv3]))]) (TR := [(ksh, .object RX2)]) (k := 0) (n := 0) Z [] [0, 1, 2, 3, 4, 5] [] [0] rfl rfl (by decide +kernel) (by decide +kernel) (by decide +kernel) rfl rfl (fun Zc => va_runS (As := [.int sheet]) (rest := []) X (c_isSheet l D sheet s.heap.size) (va_cwS 1 hts gX6_pour_X6_isSheet rfl rfl rfl zh_X6_isSheet ⟨Nat.le_of_ble_eq_true rfl, Nat.le_of_ble_eq_true rfl⟩) (zz_pS Zc) rfl rfl hl.1 rfl (lv_room (Nat.le_of_ble_eq_true rfl)) dX6_pour_1 ⟨Nat.le_of_ble_eq_true rfl, Nat.le_of_ble_eq_true rfl⟩) rfl rfl (fun r3 u1 H1 locs2 hw2 Z3 => ?_)
  clear Z
  subst r3
  have Z4 : zz_S D A s [(x, .inr (6, [.ref tx0, .ref nb, .ref tb, .ref ib, .ref ah, .ref tp, .ref rd, .ref sh, .ref sl, .ref wt, .int 0, .int 0, .int 0, .int 0, .int 0])), (sh, .inl (ksh, 4, .inr (.inr (.inr (.inr shf))))), (h0, .inr (2, [.int (-1), .int 0, .ref hv0])), (h1, .inr (2, [.int (-1), .int 0, .ref hv1])), (h2, .inr (2, [.int (-1), .int 0, .ref hv2])), (h3, .inr (2, [.int (-1), .int 0, .ref hv3]))] [(ksh, .object RX2)] H1 locs2 := Z3
  clear Z3
  by_cases w4 : 0 ≤ sheet ∧ sheet ≤ 3
  · obtain ⟨j, hj, e5⟩ := zz_rng 3 w4 (by decide)
    rcases (show j = 0 ∨ j = 1 ∨ j = 2 ∨ j = 3 by omega) with rfl | rfl | rfl | rfl
    · have e5 : sheet = 0 := e5
      subst e5
      refine zz_v (v := 1) (by decide) ?_
      refine lv_if_ne (tgt := 10) hx hb dX6_pour_4 (by decide) (fun _ => ?_) (fun h => absurd h (by decide))
      refine lv_aload_n hx hb dX6_pour_10 rfl (lv_at hl 0 rfl) ?_
      refine zz_get X Z4 0 rfl rfl (fun w h => List.mem_cons_of_mem _ (List.mem_append_left _ (List.mem_append_left _ (List.mem_append_left _ (List.mem_append_right _ h))))) 7 rfl (zz_m 2 rfl) rfl dX6_pour_11 ?_
      refine lv_iload_n hx hb dX6_pour_14 rfl (lv_at hl 1 rfl) ?_
      refine zz_ald X Z4 1 0 rfl rfl (zz_in 0 4 rfl) (v := .ref h0) ashf_0 dX6_pour_15 ?_
      refine lv_astore_n (lv' := [(2, .ref h0), (0, .ref x), (1, .int 0)]) hx hb dX6_pour_16 rfl hl (by decide) rfl (fun ls5 hl6 => ?_)
      clear hl
      refine lv_aload_n hx hb dX6_pour_17 rfl (lv_at hl6 0 rfl) ?_
      refine zz_ci (WC := [(h0, .inr (2, [.int (-1), .int 0, .ref hv0]))]) (TC := []) (WR := [(x, .inr (6, [.ref tx0, .ref nb, .ref tb, .ref ib, .ref ah, .ref tp, .ref rd, .ref sh, .ref sl, .ref wt, .int 0, .int 0, .int 0, .int 0, .int 0])), (sh, .inl (ksh, 4, .inr (.inr (.inr (.inr shf))))), (h1, .inr (2, [.int (-1), .int 0, .ref hv1])), (h2, .inr (2, [.int (-1), .int 0, .ref hv2])), (h3, .inr (2, [.int (-1), .int 0, .ref hv3]))]) (TR := [(ksh, .object RX2)]) (k := 0) (n := 0) Z4 [2] [0, 1, 3, 4, 5] [] [0] rfl rfl (by decide +kernel) (by decide +kernel) (by decide +kernel) rfl rfl (fun Zc => va_runV (As := []) (rest := []) X (c_isMissing l D h0 0 hv0 H1.size) (cwV 0 hts gX6_pour_X2_isMissing rfl rfl rfl ⟨rfl, zh_X2_isMissing⟩ ⟨Nat.le_of_ble_eq_true rfl, Nat.le_of_ble_eq_true rfl⟩) (zz_pV (ci := 2) Zc 0 rfl rfl) rfl rfl hl6.1 rfl (lv_room (Nat.le_of_ble_eq_true rfl)) dX6_pour_18 ⟨Nat.le_of_ble_eq_true rfl, Nat.le_of_ble_eq_true rfl⟩) rfl rfl (fun r8 u6 H7 locs8 hw7 Z9 => ?_)
      clear Z4
      have hw7 : r8 = 1 := hw7.trans (by decide)
      subst r8
      have Z10 : zz_S D A s [(x, .inr (6, [.ref tx0, .ref nb, .ref tb, .ref ib, .ref ah, .ref tp, .ref rd, .ref sh, .ref sl, .ref wt, .int 0, .int 0, .int 0, .int 0, .int 0])), (sh, .inl (ksh, 4, .inr (.inr (.inr (.inr shf))))), (h1, .inr (2, [.int (-1), .int 0, .ref hv1])), (h2, .inr (2, [.int (-1), .int 0, .ref hv2])), (h3, .inr (2, [.int (-1), .int 0, .ref hv3])), (h0, .inr (2, [.int (-1), .int 0, .ref hv0]))] [(ksh, .object RX2)] H7 locs8 := Z9
      clear Z9
      refine lv_if_eq (tgt := 27) hx hb dX6_pour_21 (by decide) (fun h => absurd h (by decide)) (fun _ => ?_)
      refine lv_ldc (v := (-1000000011)) hx hb hown (hts _ (zz_m 3 rfl)) dX6_pour_24 ?_
      exact zz_iret X hr hlk Z10 () (by simp [sp_sh]) [] [] (by decide +kernel) rfl rfl dX6_pour_26
    · have e5 : sheet = 1 := e5
      subst e5
      refine zz_v (v := 1) (by decide) ?_
      refine lv_if_ne (tgt := 10) hx hb dX6_pour_4 (by decide) (fun _ => ?_) (fun h => absurd h (by decide))
      refine lv_aload_n hx hb dX6_pour_10 rfl (lv_at hl 0 rfl) ?_
      refine zz_get X Z4 0 rfl rfl (fun w h => List.mem_cons_of_mem _ (List.mem_append_left _ (List.mem_append_left _ (List.mem_append_left _ (List.mem_append_right _ h))))) 7 rfl (zz_m 2 rfl) rfl dX6_pour_11 ?_
      refine lv_iload_n hx hb dX6_pour_14 rfl (lv_at hl 1 rfl) ?_
      refine zz_ald X Z4 1 0 rfl rfl (zz_in 1 4 rfl) (v := .ref h1) ashf_1 dX6_pour_15 ?_
      refine lv_astore_n (lv' := [(2, .ref h1), (0, .ref x), (1, .int 1)]) hx hb dX6_pour_16 rfl hl (by decide) rfl (fun ls11 hl12 => ?_)
      clear hl
      refine lv_aload_n hx hb dX6_pour_17 rfl (lv_at hl12 0 rfl) ?_
      refine zz_ci (WC := [(h1, .inr (2, [.int (-1), .int 0, .ref hv1]))]) (TC := []) (WR := [(x, .inr (6, [.ref tx0, .ref nb, .ref tb, .ref ib, .ref ah, .ref tp, .ref rd, .ref sh, .ref sl, .ref wt, .int 0, .int 0, .int 0, .int 0, .int 0])), (sh, .inl (ksh, 4, .inr (.inr (.inr (.inr shf))))), (h0, .inr (2, [.int (-1), .int 0, .ref hv0])), (h2, .inr (2, [.int (-1), .int 0, .ref hv2])), (h3, .inr (2, [.int (-1), .int 0, .ref hv3]))]) (TR := [(ksh, .object RX2)]) (k := 0) (n := 0) Z4 [3] [0, 1, 2, 4, 5] [] [0] rfl rfl (by decide +kernel) (by decide +kernel) (by decide +kernel) rfl rfl (fun Zc => va_runV (As := []) (rest := []) X (c_isMissing l D h1 0 hv1 H1.size) (cwV 0 hts gX6_pour_X2_isMissing rfl rfl rfl ⟨rfl, zh_X2_isMissing⟩ ⟨Nat.le_of_ble_eq_true rfl, Nat.le_of_ble_eq_true rfl⟩) (zz_pV (ci := 2) Zc 0 rfl rfl) rfl rfl hl12.1 rfl (lv_room (Nat.le_of_ble_eq_true rfl)) dX6_pour_18 ⟨Nat.le_of_ble_eq_true rfl, Nat.le_of_ble_eq_true rfl⟩) rfl rfl (fun r11 u9 H13 locs14 hw10 Z15 => ?_)
      clear Z4
      have hw10 : r11 = 1 := hw10.trans (by decide)
      subst r11
      have Z16 : zz_S D A s [(x, .inr (6, [.ref tx0, .ref nb, .ref tb, .ref ib, .ref ah, .ref tp, .ref rd, .ref sh, .ref sl, .ref wt, .int 0, .int 0, .int 0, .int 0, .int 0])), (sh, .inl (ksh, 4, .inr (.inr (.inr (.inr shf))))), (h0, .inr (2, [.int (-1), .int 0, .ref hv0])), (h2, .inr (2, [.int (-1), .int 0, .ref hv2])), (h3, .inr (2, [.int (-1), .int 0, .ref hv3])), (h1, .inr (2, [.int (-1), .int 0, .ref hv1]))] [(ksh, .object RX2)] H13 locs14 := Z15
      clear Z15
      refine lv_if_eq (tgt := 27) hx hb dX6_pour_21 (by decide) (fun h => absurd h (by decide)) (fun _ => ?_)
      refine lv_ldc (v := (-1000000011)) hx hb hown (hts _ (zz_m 3 rfl)) dX6_pour_24 ?_
      exact zz_iret X hr hlk Z16 () (by simp [sp_sh]) [] [] (by decide +kernel) rfl rfl dX6_pour_26
    · have e5 : sheet = 2 := e5
      subst e5
      refine zz_v (v := 1) (by decide) ?_
      refine lv_if_ne (tgt := 10) hx hb dX6_pour_4 (by decide) (fun _ => ?_) (fun h => absurd h (by decide))
      refine lv_aload_n hx hb dX6_pour_10 rfl (lv_at hl 0 rfl) ?_
      refine zz_get X Z4 0 rfl rfl (fun w h => List.mem_cons_of_mem _ (List.mem_append_left _ (List.mem_append_left _ (List.mem_append_left _ (List.mem_append_right _ h))))) 7 rfl (zz_m 2 rfl) rfl dX6_pour_11 ?_
      refine lv_iload_n hx hb dX6_pour_14 rfl (lv_at hl 1 rfl) ?_
      refine zz_ald X Z4 1 0 rfl rfl (zz_in 2 4 rfl) (v := .ref h2) ashf_2 dX6_pour_15 ?_
      refine lv_astore_n (lv' := [(2, .ref h2), (0, .ref x), (1, .int 2)]) hx hb dX6_pour_16 rfl hl (by decide) rfl (fun ls17 hl18 => ?_)
      clear hl
      refine lv_aload_n hx hb dX6_pour_17 rfl (lv_at hl18 0 rfl) ?_
      refine zz_ci (WC := [(h2, .inr (2, [.int (-1), .int 0, .ref hv2]))]) (TC := []) (WR := [(x, .inr (6, [.ref tx0, .ref nb, .ref tb, .ref ib, .ref ah, .ref tp, .ref rd, .ref sh, .ref sl, .ref wt, .int 0, .int 0, .int 0, .int 0, .int 0])), (sh, .inl (ksh, 4, .inr (.inr (.inr (.inr shf))))), (h0, .inr (2, [.int (-1), .int 0, .ref hv0])), (h1, .inr (2, [.int (-1), .int 0, .ref hv1])), (h3, .inr (2, [.int (-1), .int 0, .ref hv3]))]) (TR := [(ksh, .object RX2)]) (k := 0) (n := 0) Z4 [4] [0, 1, 2, 3, 5] [] [0] rfl rfl (by decide +kernel) (by decide +kernel) (by decide +kernel) rfl rfl (fun Zc => va_runV (As := []) (rest := []) X (c_isMissing l D h2 0 hv2 H1.size) (cwV 0 hts gX6_pour_X2_isMissing rfl rfl rfl ⟨rfl, zh_X2_isMissing⟩ ⟨Nat.le_of_ble_eq_true rfl, Nat.le_of_ble_eq_true rfl⟩) (zz_pV (ci := 2) Zc 0 rfl rfl) rfl rfl hl18.1 rfl (lv_room (Nat.le_of_ble_eq_true rfl)) dX6_pour_18 ⟨Nat.le_of_ble_eq_true rfl, Nat.le_of_ble_eq_true rfl⟩) rfl rfl (fun r14 u12 H19 locs20 hw13 Z21 => ?_)
      clear Z4
      have hw13 : r14 = 1 := hw13.trans (by decide)
      subst r14
      have Z22 : zz_S D A s [(x, .inr (6, [.ref tx0, .ref nb, .ref tb, .ref ib, .ref ah, .ref tp, .ref rd, .ref sh, .ref sl, .ref wt, .int 0, .int 0, .int 0, .int 0, .int 0])), (sh, .inl (ksh, 4, .inr (.inr (.inr (.inr shf))))), (h0, .inr (2, [.int (-1), .int 0, .ref hv0])), (h1, .inr (2, [.int (-1), .int 0, .ref hv1])), (h3, .inr (2, [.int (-1), .int 0, .ref hv3])), (h2, .inr (2, [.int (-1), .int 0, .ref hv2]))] [(ksh, .object RX2)] H19 locs20 := Z21
      clear Z21
      refine lv_if_eq (tgt := 27) hx hb dX6_pour_21 (by decide) (fun h => absurd h (by decide)) (fun _ => ?_)
      refine lv_ldc (v := (-1000000011)) hx hb hown (hts _ (zz_m 3 rfl)) dX6_pour_24 ?_
      exact zz_iret X hr hlk Z22 () (by simp [sp_sh]) [] [] (by decide +kernel) rfl rfl dX6_pour_26
    · have e5 : sheet = 3 := e5
      subst e5
      refine zz_v (v := 1) (by decide) ?_
      refine lv_if_ne (tgt := 10) hx hb dX6_pour_4 (by decide) (fun _ => ?_) (fun h => absurd h (by decide))
      refine lv_aload_n hx hb dX6_pour_10 rfl (lv_at hl 0 rfl) ?_
      refine zz_get X Z4 0 rfl rfl (fun w h => List.mem_cons_of_mem _ (List.mem_append_left _ (List.mem_append_left _ (List.mem_append_left _ (List.mem_append_right _ h))))) 7 rfl (zz_m 2 rfl) rfl dX6_pour_11 ?_
      refine lv_iload_n hx hb dX6_pour_14 rfl (lv_at hl 1 rfl) ?_
      refine zz_ald X Z4 1 0 rfl rfl (zz_in 3 4 rfl) (v := .ref h3) ashf_3 dX6_pour_15 ?_
      refine lv_astore_n (lv' := [(2, .ref h3), (0, .ref x), (1, .int 3)]) hx hb dX6_pour_16 rfl hl (by decide) rfl (fun ls23 hl24 => ?_)
      clear hl
      refine lv_aload_n hx hb dX6_pour_17 rfl (lv_at hl24 0 rfl) ?_
      refine zz_ci (WC := [(h3, .inr (2, [.int (-1), .int 0, .ref hv3]))]) (TC := []) (WR := [(x, .inr (6, [.ref tx0, .ref nb, .ref tb, .ref ib, .ref ah, .ref tp, .ref rd, .ref sh, .ref sl, .ref wt, .int 0, .int 0, .int 0, .int 0, .int 0])), (sh, .inl (ksh, 4, .inr (.inr (.inr (.inr shf))))), (h0, .inr (2, [.int (-1), .int 0, .ref hv0])), (h1, .inr (2, [.int (-1), .int 0, .ref hv1])), (h2, .inr (2, [.int (-1), .int 0, .ref hv2]))]) (TR := [(ksh, .object RX2)]) (k := 0) (n := 0) Z4 [5] [0, 1, 2, 3, 4] [] [0] rfl rfl (by decide +kernel) (by decide +kernel) (by decide +kernel) rfl rfl (fun Zc => va_runV (As := []) (rest := []) X (c_isMissing l D h3 0 hv3 H1.size) (cwV 0 hts gX6_pour_X2_isMissing rfl rfl rfl ⟨rfl, zh_X2_isMissing⟩ ⟨Nat.le_of_ble_eq_true rfl, Nat.le_of_ble_eq_true rfl⟩) (zz_pV (ci := 2) Zc 0 rfl rfl) rfl rfl hl24.1 rfl (lv_room (Nat.le_of_ble_eq_true rfl)) dX6_pour_18 ⟨Nat.le_of_ble_eq_true rfl, Nat.le_of_ble_eq_true rfl⟩) rfl rfl (fun r17 u15 H25 locs26 hw16 Z27 => ?_)
      clear Z4
      have hw16 : r17 = 1 := hw16.trans (by decide)
      subst r17
      have Z28 : zz_S D A s [(x, .inr (6, [.ref tx0, .ref nb, .ref tb, .ref ib, .ref ah, .ref tp, .ref rd, .ref sh, .ref sl, .ref wt, .int 0, .int 0, .int 0, .int 0, .int 0])), (sh, .inl (ksh, 4, .inr (.inr (.inr (.inr shf))))), (h0, .inr (2, [.int (-1), .int 0, .ref hv0])), (h1, .inr (2, [.int (-1), .int 0, .ref hv1])), (h2, .inr (2, [.int (-1), .int 0, .ref hv2])), (h3, .inr (2, [.int (-1), .int 0, .ref hv3]))] [(ksh, .object RX2)] H25 locs26 := Z27
      clear Z27
      refine lv_if_eq (tgt := 27) hx hb dX6_pour_21 (by decide) (fun h => absurd h (by decide)) (fun _ => ?_)
      refine lv_ldc (v := (-1000000011)) hx hb hown (hts _ (zz_m 3 rfl)) dX6_pour_24 ?_
      exact zz_iret X hr hlk Z28 () (by simp [sp_sh]) [] [] (by decide +kernel) rfl rfl dX6_pour_26
  · refine zz_v (v := 0) (zz_wiF w4) ?_
    refine lv_if_ne (tgt := 10) hx hb dX6_pour_4 (by decide) (fun h => absurd (by decide) h) (fun _ => ?_)
    refine lv_ldc (v := (-1000000001)) hx hb hown (hts _ (zz_m 1 rfl)) dX6_pour_7 ?_
    exact zz_iret X hr hlk Z4 () (by simp [sp_sh, w4]) [] [] (by decide +kernel) rfl rfl dX6_pour_9

set_option maxHeartbeats 4000000 in
set_option maxRecDepth 100000 in
theorem c6_reads (l : Launch) (D : va_G) (x : Nat) (tx0 : Nat) (nb : Nat) (tb : Nat) (ib : Nat) (ah : Nat) (tp : Nat) (rd : Nat) (sh : Nat) (sl : Nat) (wt : Nat) (ksh : ClassId) (shf : (Nat → Option Nat)) (h0 : Nat) (h1 : Nat) (h2 : Nat) (h3 : Nat) (hv0 : Nat) (hv1 : Nat) (hv2 : Nat) (hv3 : Nat) (sheet : Int32) (ashf_0 : va_rf (shf 0) = .ref h0) (ashf_1 : va_rf (shf 1) = .ref h1) (ashf_2 : va_rf (shf 2) = .ref h2) (ashf_3 : va_rf (shf 3) = .ref h3) : zz_MI l yX6_reads wsX6_reads 2 42 0 0 D [.ref x, .int sheet] [(x, .inr (6, [.ref tx0, .ref nb, .ref tb, .ref ib, .ref ah, .ref tp, .ref rd, .ref sh, .ref sl, .ref wt, .int 0, .int 0, .int 0, .int 0, .int 0])), (sh, .inl (ksh, 4, .inr (.inr (.inr (.inr shf))))), (h0, .inr (2, [.int (-1), .int 0, .ref hv0])), (h1, .inr (2, [.int (-1), .int 0, .ref hv1])), (h2, .inr (2, [.int (-1), .int 0, .ref hv2])), (h3, .inr (2, [.int (-1), .int 0, .ref hv3]))] [(ksh, .object RX2)] (fun (r : Int32) (u : Unit) => r = sp_sh sheet) (fun (u : Unit) => []) (fun (u : Unit) => []) := by
  intro sz
  refine Met.ofW (cc := cX6_reads) (maxL := 4) (ret := (some .int)) (by decide) rfl ?_
  intro p e s m args below meth c s₁ B hml hv
  obtain ⟨rfl, hC⟩ := hv
  have hx := B.exec
  have hb := B.bytes
  have hr := B.returns
  have hts := atoms_spec (ws := wsX6_reads) B.pre
  have hown : s.vm.findClass RX6 = some m.cls := findClass_of_methodNamed B.named
  have hlk := B.notSynchronized
  have X : CallFix p m c cX6_reads 4 s _ wsX6_reads RX6 := ⟨hx, hb, hml, hown, hts⟩
  have Z := zz_enter hC
  generalize va_A [(x, .inr (6, [.ref tx0, .ref nb, .ref tb, .ref ib, .ref ah, .ref tp, .ref rd, .ref sh, .ref sl, .ref wt, .int 0, .int 0, .int 0, .int 0, .int 0])), (sh, .inl (ksh, 4, .inr (.inr (.inr (.inr shf))))), (h0, .inr (2, [.int (-1), .int 0, .ref hv0])), (h1, .inr (2, [.int (-1), .int 0, .ref hv1])), (h2, .inr (2, [.int (-1), .int 0, .ref hv2])), (h3, .inr (2, [.int (-1), .int 0, .ref hv3]))] sz = A at Z ⊢
  have hl := lv_entry ([.ref x, .int sheet]) (n := 4) (Nat.le_of_ble_eq_true rfl)
  rw [lg_entry_eq]
  generalize (lg_sl ([.ref x, .int sheet]) ++ List.replicate (4 - (lg_sl ([.ref x, .int sheet])).length) Slot.unset).toArray = ls at hl ⊢
  have hl : lv_has ls 4 [(0, .ref x), (1, .int sheet)] := hl
  refine lv_iload_n hx hb dX6_reads_0 rfl (lv_at hl 1 rfl) ?_
  refine zz_ci (WC := []) (TC := []) (WR := [(x, .inr (6, [.ref tx0, .ref nb, .ref tb, .ref ib, .ref ah, .ref tp, .ref rd, .ref sh, .ref sl, .ref wt, .int 0, .int 0, .int 0, .int 0, .int 0])), (sh, .inl (ksh, 4, .inr (.inr (.inr (.inr shf))))), (h0, .inr (2, [.int (-1), .int 0, .ref hv0])), (h1, .inr (2, [.int (-1), .int 0, .ref hv1])), (h2, .inr (2, [.int (-1), .int 0, .ref hv2])), (h3, .inr (2, [.int (-1), .int 0, .ref hv3]))]) (TR := [(ksh, .object RX2)]) (k := 0) (n := 0) Z [] [0, 1, 2, 3, 4, 5] [] [0] rfl rfl (by decide +kernel) (by decide +kernel) (by decide +kernel) rfl rfl (fun Zc => va_runS (As := [.int sheet]) (rest := []) X (c_isSheet l D sheet s.heap.size) (va_cwS 1 hts gX6_reads_X6_isSheet rfl rfl rfl zh_X6_isSheet ⟨Nat.le_of_ble_eq_true rfl, Nat.le_of_ble_eq_true rfl⟩) (zz_pS Zc) rfl rfl hl.1 rfl (lv_room (Nat.le_of_ble_eq_true rfl)) dX6_reads_1 ⟨Nat.le_of_ble_eq_true rfl, Nat.le_of_ble_eq_true rfl⟩) rfl rfl (fun r3 u1 H1 locs2 hw2 Z3 => ?_)
  clear Z
  subst r3
  have Z4 : zz_S D A s [(x, .inr (6, [.ref tx0, .ref nb, .ref tb, .ref ib, .ref ah, .ref tp, .ref rd, .ref sh, .ref sl, .ref wt, .int 0, .int 0, .int 0, .int 0, .int 0])), (sh, .inl (ksh, 4, .inr (.inr (.inr (.inr shf))))), (h0, .inr (2, [.int (-1), .int 0, .ref hv0])), (h1, .inr (2, [.int (-1), .int 0, .ref hv1])), (h2, .inr (2, [.int (-1), .int 0, .ref hv2])), (h3, .inr (2, [.int (-1), .int 0, .ref hv3]))] [(ksh, .object RX2)] H1 locs2 := Z3
  clear Z3
  by_cases w4 : 0 ≤ sheet ∧ sheet ≤ 3
  · obtain ⟨j, hj, e5⟩ := zz_rng 3 w4 (by decide)
    rcases (show j = 0 ∨ j = 1 ∨ j = 2 ∨ j = 3 by omega) with rfl | rfl | rfl | rfl
    · have e5 : sheet = 0 := e5
      subst e5
      refine zz_v (v := 1) (by decide) ?_
      refine lv_if_ne (tgt := 10) hx hb dX6_reads_4 (by decide) (fun _ => ?_) (fun h => absurd h (by decide))
      refine lv_aload_n hx hb dX6_reads_10 rfl (lv_at hl 0 rfl) ?_
      refine zz_get X Z4 0 rfl rfl (fun w h => List.mem_cons_of_mem _ (List.mem_append_left _ (List.mem_append_left _ (List.mem_append_left _ (List.mem_append_left _ (List.mem_append_right _ h)))))) 7 rfl (zz_m 2 rfl) rfl dX6_reads_11 ?_
      refine lv_iload_n hx hb dX6_reads_14 rfl (lv_at hl 1 rfl) ?_
      refine zz_ald X Z4 1 0 rfl rfl (zz_in 0 4 rfl) (v := .ref h0) ashf_0 dX6_reads_15 ?_
      refine lv_astore_n (lv' := [(2, .ref h0), (0, .ref x), (1, .int 0)]) hx hb dX6_reads_16 rfl hl (by decide) rfl (fun ls5 hl6 => ?_)
      clear hl
      refine lv_aload_n hx hb dX6_reads_17 rfl (lv_at hl6 0 rfl) ?_
      refine zz_ci (WC := [(h0, .inr (2, [.int (-1), .int 0, .ref hv0]))]) (TC := []) (WR := [(x, .inr (6, [.ref tx0, .ref nb, .ref tb, .ref ib, .ref ah, .ref tp, .ref rd, .ref sh, .ref sl, .ref wt, .int 0, .int 0, .int 0, .int 0, .int 0])), (sh, .inl (ksh, 4, .inr (.inr (.inr (.inr shf))))), (h1, .inr (2, [.int (-1), .int 0, .ref hv1])), (h2, .inr (2, [.int (-1), .int 0, .ref hv2])), (h3, .inr (2, [.int (-1), .int 0, .ref hv3]))]) (TR := [(ksh, .object RX2)]) (k := 0) (n := 0) Z4 [2] [0, 1, 3, 4, 5] [] [0] rfl rfl (by decide +kernel) (by decide +kernel) (by decide +kernel) rfl rfl (fun Zc => va_runV (As := []) (rest := []) X (c_isMissing l D h0 0 hv0 H1.size) (cwV 0 hts gX6_reads_X2_isMissing rfl rfl rfl ⟨rfl, zh_X2_isMissing⟩ ⟨Nat.le_of_ble_eq_true rfl, Nat.le_of_ble_eq_true rfl⟩) (zz_pV (ci := 2) Zc 0 rfl rfl) rfl rfl hl6.1 rfl (lv_room (Nat.le_of_ble_eq_true rfl)) dX6_reads_18 ⟨Nat.le_of_ble_eq_true rfl, Nat.le_of_ble_eq_true rfl⟩) rfl rfl (fun r8 u6 H7 locs8 hw7 Z9 => ?_)
      clear Z4
      have hw7 : r8 = 1 := hw7.trans (by decide)
      subst r8
      have Z10 : zz_S D A s [(x, .inr (6, [.ref tx0, .ref nb, .ref tb, .ref ib, .ref ah, .ref tp, .ref rd, .ref sh, .ref sl, .ref wt, .int 0, .int 0, .int 0, .int 0, .int 0])), (sh, .inl (ksh, 4, .inr (.inr (.inr (.inr shf))))), (h1, .inr (2, [.int (-1), .int 0, .ref hv1])), (h2, .inr (2, [.int (-1), .int 0, .ref hv2])), (h3, .inr (2, [.int (-1), .int 0, .ref hv3])), (h0, .inr (2, [.int (-1), .int 0, .ref hv0]))] [(ksh, .object RX2)] H7 locs8 := Z9
      clear Z9
      refine lv_if_eq (tgt := 27) hx hb dX6_reads_21 (by decide) (fun h => absurd h (by decide)) (fun _ => ?_)
      refine lv_ldc (v := (-1000000011)) hx hb hown (hts _ (zz_m 3 rfl)) dX6_reads_24 ?_
      exact zz_iret X hr hlk Z10 () (by simp [sp_sh]) [] [] (by decide +kernel) rfl rfl dX6_reads_26
    · have e5 : sheet = 1 := e5
      subst e5
      refine zz_v (v := 1) (by decide) ?_
      refine lv_if_ne (tgt := 10) hx hb dX6_reads_4 (by decide) (fun _ => ?_) (fun h => absurd h (by decide))
      refine lv_aload_n hx hb dX6_reads_10 rfl (lv_at hl 0 rfl) ?_
      refine zz_get X Z4 0 rfl rfl (fun w h => List.mem_cons_of_mem _ (List.mem_append_left _ (List.mem_append_left _ (List.mem_append_left _ (List.mem_append_left _ (List.mem_append_right _ h)))))) 7 rfl (zz_m 2 rfl) rfl dX6_reads_11 ?_
      refine lv_iload_n hx hb dX6_reads_14 rfl (lv_at hl 1 rfl) ?_
      refine zz_ald X Z4 1 0 rfl rfl (zz_in 1 4 rfl) (v := .ref h1) ashf_1 dX6_reads_15 ?_
      refine lv_astore_n (lv' := [(2, .ref h1), (0, .ref x), (1, .int 1)]) hx hb dX6_reads_16 rfl hl (by decide) rfl (fun ls11 hl12 => ?_)
      clear hl
      refine lv_aload_n hx hb dX6_reads_17 rfl (lv_at hl12 0 rfl) ?_
      refine zz_ci (WC := [(h1, .inr (2, [.int (-1), .int 0, .ref hv1]))]) (TC := []) (WR := [(x, .inr (6, [.ref tx0, .ref nb, .ref tb, .ref ib, .ref ah, .ref tp, .ref rd, .ref sh, .ref sl, .ref wt, .int 0, .int 0, .int 0, .int 0, .int 0])), (sh, .inl (ksh, 4, .inr (.inr (.inr (.inr shf))))), (h0, .inr (2, [.int (-1), .int 0, .ref hv0])), (h2, .inr (2, [.int (-1), .int 0, .ref hv2])), (h3, .inr (2, [.int (-1), .int 0, .ref hv3]))]) (TR := [(ksh, .object RX2)]) (k := 0) (n := 0) Z4 [3] [0, 1, 2, 4, 5] [] [0] rfl rfl (by decide +kernel) (by decide +kernel) (by decide +kernel) rfl rfl (fun Zc => va_runV (As := []) (rest := []) X (c_isMissing l D h1 0 hv1 H1.size) (cwV 0 hts gX6_reads_X2_isMissing rfl rfl rfl ⟨rfl, zh_X2_isMissing⟩ ⟨Nat.le_of_ble_eq_true rfl, Nat.le_of_ble_eq_true rfl⟩) (zz_pV (ci := 2) Zc 0 rfl rfl) rfl rfl hl12.1 rfl (lv_room (Nat.le_of_ble_eq_true rfl)) dX6_reads_18 ⟨Nat.le_of_ble_eq_true rfl, Nat.le_of_ble_eq_true rfl⟩) rfl rfl (fun r11 u9 H13 locs14 hw10 Z15 => ?_)
      clear Z4
      have hw10 : r11 = 1 := hw10.trans (by decide)
      subst r11
      have Z16 : zz_S D A s [(x, .inr (6, [.ref tx0, .ref nb, .ref tb, .ref ib, .ref ah, .ref tp, .ref rd, .ref sh, .ref sl, .ref wt, .int 0, .int 0, .int 0, .int 0, .int 0])), (sh, .inl (ksh, 4, .inr (.inr (.inr (.inr shf))))), (h0, .inr (2, [.int (-1), .int 0, .ref hv0])), (h2, .inr (2, [.int (-1), .int 0, .ref hv2])), (h3, .inr (2, [.int (-1), .int 0, .ref hv3])), (h1, .inr (2, [.int (-1), .int 0, .ref hv1]))] [(ksh, .object RX2)] H13 locs14 := Z15
      clear Z15
      refine lv_if_eq (tgt := 27) hx hb dX6_reads_21 (by decide) (fun h => absurd h (by decide)) (fun _ => ?_)
      refine lv_ldc (v := (-1000000011)) hx hb hown (hts _ (zz_m 3 rfl)) dX6_reads_24 ?_
      exact zz_iret X hr hlk Z16 () (by simp [sp_sh]) [] [] (by decide +kernel) rfl rfl dX6_reads_26
    · have e5 : sheet = 2 := e5
      subst e5
      refine zz_v (v := 1) (by decide) ?_
      refine lv_if_ne (tgt := 10) hx hb dX6_reads_4 (by decide) (fun _ => ?_) (fun h => absurd h (by decide))
      refine lv_aload_n hx hb dX6_reads_10 rfl (lv_at hl 0 rfl) ?_
      refine zz_get X Z4 0 rfl rfl (fun w h => List.mem_cons_of_mem _ (List.mem_append_left _ (List.mem_append_left _ (List.mem_append_left _ (List.mem_append_left _ (List.mem_append_right _ h)))))) 7 rfl (zz_m 2 rfl) rfl dX6_reads_11 ?_
      refine lv_iload_n hx hb dX6_reads_14 rfl (lv_at hl 1 rfl) ?_
      refine zz_ald X Z4 1 0 rfl rfl (zz_in 2 4 rfl) (v := .ref h2) ashf_2 dX6_reads_15 ?_
      refine lv_astore_n (lv' := [(2, .ref h2), (0, .ref x), (1, .int 2)]) hx hb dX6_reads_16 rfl hl (by decide) rfl (fun ls17 hl18 => ?_)
      clear hl
      refine lv_aload_n hx hb dX6_reads_17 rfl (lv_at hl18 0 rfl) ?_
      refine zz_ci (WC := [(h2, .inr (2, [.int (-1), .int 0, .ref hv2]))]) (TC := []) (WR := [(x, .inr (6, [.ref tx0, .ref nb, .ref tb, .ref ib, .ref ah, .ref tp, .ref rd, .ref sh, .ref sl, .ref wt, .int 0, .int 0, .int 0, .int 0, .int 0])), (sh, .inl (ksh, 4, .inr (.inr (.inr (.inr shf))))), (h0, .inr (2, [.int (-1), .int 0, .ref hv0])), (h1, .inr (2, [.int (-1), .int 0, .ref hv1])), (h3, .inr (2, [.int (-1), .int 0, .ref hv3]))]) (TR := [(ksh, .object RX2)]) (k := 0) (n := 0) Z4 [4] [0, 1, 2, 3, 5] [] [0] rfl rfl (by decide +kernel) (by decide +kernel) (by decide +kernel) rfl rfl (fun Zc => va_runV (As := []) (rest := []) X (c_isMissing l D h2 0 hv2 H1.size) (cwV 0 hts gX6_reads_X2_isMissing rfl rfl rfl ⟨rfl, zh_X2_isMissing⟩ ⟨Nat.le_of_ble_eq_true rfl, Nat.le_of_ble_eq_true rfl⟩) (zz_pV (ci := 2) Zc 0 rfl rfl) rfl rfl hl18.1 rfl (lv_room (Nat.le_of_ble_eq_true rfl)) dX6_reads_18 ⟨Nat.le_of_ble_eq_true rfl, Nat.le_of_ble_eq_true rfl⟩) rfl rfl (fun r14 u12 H19 locs20 hw13 Z21 => ?_)
      clear Z4
      have hw13 : r14 = 1 := hw13.trans (by decide)
      subst r14
      have Z22 : zz_S D A s [(x, .inr (6, [.ref tx0, .ref nb, .ref tb, .ref ib, .ref ah, .ref tp, .ref rd, .ref sh, .ref sl, .ref wt, .int 0, .int 0, .int 0, .int 0, .int 0])), (sh, .inl (ksh, 4, .inr (.inr (.inr (.inr shf))))), (h0, .inr (2, [.int (-1), .int 0, .ref hv0])), (h1, .inr (2, [.int (-1), .int 0, .ref hv1])), (h3, .inr (2, [.int (-1), .int 0, .ref hv3])), (h2, .inr (2, [.int (-1), .int 0, .ref hv2]))] [(ksh, .object RX2)] H19 locs20 := Z21
      clear Z21
      refine lv_if_eq (tgt := 27) hx hb dX6_reads_21 (by decide) (fun h => absurd h (by decide)) (fun _ => ?_)
      refine lv_ldc (v := (-1000000011)) hx hb hown (hts _ (zz_m 3 rfl)) dX6_reads_24 ?_
      exact zz_iret X hr hlk Z22 () (by simp [sp_sh]) [] [] (by decide +kernel) rfl rfl dX6_reads_26
    · have e5 : sheet = 3 := e5
      subst e5
      refine zz_v (v := 1) (by decide) ?_
      refine lv_if_ne (tgt := 10) hx hb dX6_reads_4 (by decide) (fun _ => ?_) (fun h => absurd h (by decide))
      refine lv_aload_n hx hb dX6_reads_10 rfl (lv_at hl 0 rfl) ?_
      refine zz_get X Z4 0 rfl rfl (fun w h => List.mem_cons_of_mem _ (List.mem_append_left _ (List.mem_append_left _ (List.mem_append_left _ (List.mem_append_left _ (List.mem_append_right _ h)))))) 7 rfl (zz_m 2 rfl) rfl dX6_reads_11 ?_
      refine lv_iload_n hx hb dX6_reads_14 rfl (lv_at hl 1 rfl) ?_
      refine zz_ald X Z4 1 0 rfl rfl (zz_in 3 4 rfl) (v := .ref h3) ashf_3 dX6_reads_15 ?_
      refine lv_astore_n (lv' := [(2, .ref h3), (0, .ref x), (1, .int 3)]) hx hb dX6_reads_16 rfl hl (by decide) rfl (fun ls23 hl24 => ?_)
      clear hl
      refine lv_aload_n hx hb dX6_reads_17 rfl (lv_at hl24 0 rfl) ?_
      refine zz_ci (WC := [(h3, .inr (2, [.int (-1), .int 0, .ref hv3]))]) (TC := []) (WR := [(x, .inr (6, [.ref tx0, .ref nb, .ref tb, .ref ib, .ref ah, .ref tp, .ref rd, .ref sh, .ref sl, .ref wt, .int 0, .int 0, .int 0, .int 0, .int 0])), (sh, .inl (ksh, 4, .inr (.inr (.inr (.inr shf))))), (h0, .inr (2, [.int (-1), .int 0, .ref hv0])), (h1, .inr (2, [.int (-1), .int 0, .ref hv1])), (h2, .inr (2, [.int (-1), .int 0, .ref hv2]))]) (TR := [(ksh, .object RX2)]) (k := 0) (n := 0) Z4 [5] [0, 1, 2, 3, 4] [] [0] rfl rfl (by decide +kernel) (by decide +kernel) (by decide +kernel) rfl rfl (fun Zc => va_runV (As := []) (rest := []) X (c_isMissing l D h3 0 hv3 H1.size) (cwV 0 hts gX6_reads_X2_isMissing rfl rfl rfl ⟨rfl, zh_X2_isMissing⟩ ⟨Nat.le_of_ble_eq_true rfl, Nat.le_of_ble_eq_true rfl⟩) (zz_pV (ci := 2) Zc 0 rfl rfl) rfl rfl hl24.1 rfl (lv_room (Nat.le_of_ble_eq_true rfl)) dX6_reads_18 ⟨Nat.le_of_ble_eq_true rfl, Nat.le_of_ble_eq_true rfl⟩) rfl rfl (fun r17 u15 H25 locs26 hw16 Z27 => ?_)
      clear Z4
      have hw16 : r17 = 1 := hw16.trans (by decide)
      subst r17
      have Z28 : zz_S D A s [(x, .inr (6, [.ref tx0, .ref nb, .ref tb, .ref ib, .ref ah, .ref tp, .ref rd, .ref sh, .ref sl, .ref wt, .int 0, .int 0, .int 0, .int 0, .int 0])), (sh, .inl (ksh, 4, .inr (.inr (.inr (.inr shf))))), (h0, .inr (2, [.int (-1), .int 0, .ref hv0])), (h1, .inr (2, [.int (-1), .int 0, .ref hv1])), (h2, .inr (2, [.int (-1), .int 0, .ref hv2])), (h3, .inr (2, [.int (-1), .int 0, .ref hv3]))] [(ksh, .object RX2)] H25 locs26 := Z27
      clear Z27
      refine lv_if_eq (tgt := 27) hx hb dX6_reads_21 (by decide) (fun h => absurd h (by decide)) (fun _ => ?_)
      refine lv_ldc (v := (-1000000011)) hx hb hown (hts _ (zz_m 3 rfl)) dX6_reads_24 ?_
      exact zz_iret X hr hlk Z28 () (by simp [sp_sh]) [] [] (by decide +kernel) rfl rfl dX6_reads_26
  · refine zz_v (v := 0) (zz_wiF w4) ?_
    refine lv_if_ne (tgt := 10) hx hb dX6_reads_4 (by decide) (fun h => absurd (by decide) h) (fun _ => ?_)
    refine lv_ldc (v := (-1000000001)) hx hb hown (hts _ (zz_m 1 rfl)) dX6_reads_7 ?_
    exact zz_iret X hr hlk Z4 () (by simp [sp_sh, w4]) [] [] (by decide +kernel) rfl rfl dX6_reads_9

set_option maxHeartbeats 4000000 in
set_option maxRecDepth 100000 in
theorem c6_whose (l : Launch) (D : va_G) (x : Nat) (tx0 : Nat) (nb : Nat) (tb : Nat) (ib : Nat) (ah : Nat) (tp : Nat) (rd : Nat) (sh : Nat) (sl : Nat) (wt : Nat) (ksh : ClassId) (shf : (Nat → Option Nat)) (h0 : Nat) (h1 : Nat) (h2 : Nat) (h3 : Nat) (hv0 : Nat) (hv1 : Nat) (hv2 : Nat) (hv3 : Nat) (sheet : Int32) (n : Int32) (what : Int32) (ashf_0 : va_rf (shf 0) = .ref h0) (ashf_1 : va_rf (shf 1) = .ref h1) (ashf_2 : va_rf (shf 2) = .ref h2) (ashf_3 : va_rf (shf 3) = .ref h3) : zz_MI l yX6_whose wsX6_whose 2 42 0 0 D [.ref x, .int sheet, .int n, .int what] [(x, .inr (6, [.ref tx0, .ref nb, .ref tb, .ref ib, .ref ah, .ref tp, .ref rd, .ref sh, .ref sl, .ref wt, .int 0, .int 0, .int 0, .int 0, .int 0])), (sh, .inl (ksh, 4, .inr (.inr (.inr (.inr shf))))), (h0, .inr (2, [.int (-1), .int 0, .ref hv0])), (h1, .inr (2, [.int (-1), .int 0, .ref hv1])), (h2, .inr (2, [.int (-1), .int 0, .ref hv2])), (h3, .inr (2, [.int (-1), .int 0, .ref hv3]))] [(ksh, .object RX2)] (fun (r : Int32) (u : Unit) => r = sp_whose sheet n what) (fun (u : Unit) => []) (fun (u : Unit) => []) := by
  intro sz
  refine Met.ofW (cc := cX6_whose) (maxL := 8) (ret := (some .int)) (by decide) rfl ?_
  intro p e s m args below meth c s₁ B hml hv
  obtain ⟨rfl, hC⟩ := hv
  have hx := B.exec
  have hb := B.bytes
  have hr := B.returns
  have hts := atoms_spec (ws := wsX6_whose) B.pre
  have hown : s.vm.findClass RX6 = some m.cls := findClass_of_methodNamed B.named
  have hlk := B.notSynchronized
  have X : CallFix p m c cX6_whose 8 s _ wsX6_whose RX6 := ⟨hx, hb, hml, hown, hts⟩
  have Z := zz_enter hC
  generalize va_A [(x, .inr (6, [.ref tx0, .ref nb, .ref tb, .ref ib, .ref ah, .ref tp, .ref rd, .ref sh, .ref sl, .ref wt, .int 0, .int 0, .int 0, .int 0, .int 0])), (sh, .inl (ksh, 4, .inr (.inr (.inr (.inr shf))))), (h0, .inr (2, [.int (-1), .int 0, .ref hv0])), (h1, .inr (2, [.int (-1), .int 0, .ref hv1])), (h2, .inr (2, [.int (-1), .int 0, .ref hv2])), (h3, .inr (2, [.int (-1), .int 0, .ref hv3]))] sz = A at Z ⊢
  have hl := lv_entry ([.ref x, .int sheet, .int n, .int what]) (n := 8) (Nat.le_of_ble_eq_true rfl)
  rw [lg_entry_eq]
  generalize (lg_sl ([.ref x, .int sheet, .int n, .int what]) ++ List.replicate (8 - (lg_sl ([.ref x, .int sheet, .int n, .int what])).length) Slot.unset).toArray = ls at hl ⊢
  have hl : lv_has ls 8 [(0, .ref x), (1, .int sheet), (2, .int n), (3, .int what)] := hl
  refine lv_iload_n hx hb dX6_whose_0 rfl (lv_at hl 1 rfl) ?_
  refine zz_ci (WC := []) (TC := []) (WR := [(x, .inr (6, [.ref tx0, .ref nb, .ref tb, .ref ib, .ref ah, .ref tp, .ref rd, .ref sh, .ref sl, .ref wt, .int 0, .int 0, .int 0, .int 0, .int 0])), (sh, .inl (ksh, 4, .inr (.inr (.inr (.inr shf))))), (h0, .inr (2, [.int (-1), .int 0, .ref hv0])), (h1, .inr (2, [.int (-1), .int 0, .ref hv1])), (h2, .inr (2, [.int (-1), .int 0, .ref hv2])), (h3, .inr (2, [.int (-1), .int 0, .ref hv3]))]) (TR := [(ksh, .object RX2)]) (k := 0) (n := 0) Z [] [0, 1, 2, 3, 4, 5] [] [0] rfl rfl (by decide +kernel) (by decide +kernel) (by decide +kernel) rfl rfl (fun Zc => va_runS (As := [.int sheet]) (rest := []) X (c_isSheet l D sheet s.heap.size) (va_cwS 1 hts gX6_whose_X6_isSheet rfl rfl rfl zh_X6_isSheet ⟨Nat.le_of_ble_eq_true rfl, Nat.le_of_ble_eq_true rfl⟩) (zz_pS Zc) rfl rfl hl.1 rfl (lv_room (Nat.le_of_ble_eq_true rfl)) dX6_whose_1 ⟨Nat.le_of_ble_eq_true rfl, Nat.le_of_ble_eq_true rfl⟩) rfl rfl (fun r3 u1 H1 locs2 hw2 Z3 => ?_)
  clear Z
  subst r3
  have Z4 : zz_S D A s [(x, .inr (6, [.ref tx0, .ref nb, .ref tb, .ref ib, .ref ah, .ref tp, .ref rd, .ref sh, .ref sl, .ref wt, .int 0, .int 0, .int 0, .int 0, .int 0])), (sh, .inl (ksh, 4, .inr (.inr (.inr (.inr shf))))), (h0, .inr (2, [.int (-1), .int 0, .ref hv0])), (h1, .inr (2, [.int (-1), .int 0, .ref hv1])), (h2, .inr (2, [.int (-1), .int 0, .ref hv2])), (h3, .inr (2, [.int (-1), .int 0, .ref hv3]))] [(ksh, .object RX2)] H1 locs2 := Z3
  clear Z3
  by_cases w4 : 0 ≤ sheet ∧ sheet ≤ 3
  · obtain ⟨j, hj, e5⟩ := zz_rng 3 w4 (by decide)
    rcases (show j = 0 ∨ j = 1 ∨ j = 2 ∨ j = 3 by omega) with rfl | rfl | rfl | rfl
    · have e5 : sheet = 0 := e5
      subst e5
      refine zz_v (v := 1) (by decide) ?_
      refine lv_if_eq (tgt := 26) hx hb dX6_whose_4 (by decide) (fun h => absurd h (by decide)) (fun _ => ?_)
      refine lv_iload_n hx hb dX6_whose_7 rfl (lv_at hl 2 rfl) ?_
      refine lv_iconst (v := 0) hx hb dX6_whose_8 (by decide) ?_
      refine lv_bipush (v := 60) hx hb dX6_whose_9 (by decide) ?_
      refine zz_ci (WC := []) (TC := []) (WR := [(x, .inr (6, [.ref tx0, .ref nb, .ref tb, .ref ib, .ref ah, .ref tp, .ref rd, .ref sh, .ref sl, .ref wt, .int 0, .int 0, .int 0, .int 0, .int 0])), (sh, .inl (ksh, 4, .inr (.inr (.inr (.inr shf))))), (h0, .inr (2, [.int (-1), .int 0, .ref hv0])), (h1, .inr (2, [.int (-1), .int 0, .ref hv1])), (h2, .inr (2, [.int (-1), .int 0, .ref hv2])), (h3, .inr (2, [.int (-1), .int 0, .ref hv3]))]) (TR := [(ksh, .object RX2)]) (k := 0) (n := 0) Z4 [] [0, 1, 2, 3, 4, 5] [] [0] rfl rfl (by decide +kernel) (by decide +kernel) (by decide +kernel) rfl rfl (fun Zc => va_runS (As := [.int n, .int 0, .int 60]) (rest := []) X (c_within l D n 0 60 H1.size) (va_cwS 3 hts gX6_whose_X6_within rfl rfl rfl zh_X6_within ⟨Nat.le_of_ble_eq_true rfl, Nat.le_of_ble_eq_true rfl⟩) (zz_pS Zc) rfl rfl hl.1 rfl (lv_room (Nat.le_of_ble_eq_true rfl)) dX6_whose_11 ⟨Nat.le_of_ble_eq_true rfl, Nat.le_of_ble_eq_true rfl⟩) rfl rfl (fun r8 u6 H5 locs6 hw7 Z7 => ?_)
      clear Z4
      subst r8
      have Z8 : zz_S D A s [(x, .inr (6, [.ref tx0, .ref nb, .ref tb, .ref ib, .ref ah, .ref tp, .ref rd, .ref sh, .ref sl, .ref wt, .int 0, .int 0, .int 0, .int 0, .int 0])), (sh, .inl (ksh, 4, .inr (.inr (.inr (.inr shf))))), (h0, .inr (2, [.int (-1), .int 0, .ref hv0])), (h1, .inr (2, [.int (-1), .int 0, .ref hv1])), (h2, .inr (2, [.int (-1), .int 0, .ref hv2])), (h3, .inr (2, [.int (-1), .int 0, .ref hv3]))] [(ksh, .object RX2)] H5 locs6 := Z7
      clear Z7
      by_cases w9 : 0 ≤ n ∧ n ≤ 60
      · refine zz_v (v := 1) (zz_wiT w9) ?_
        refine lv_if_eq (tgt := 26) hx hb dX6_whose_14 (by decide) (fun h => absurd h (by decide)) (fun _ => ?_)
        refine lv_iload_n hx hb dX6_whose_17 rfl (lv_at hl 3 rfl) ?_
        refine lv_iconst (v := 0) hx hb dX6_whose_18 (by decide) ?_
        refine lv_iconst (v := 1) hx hb dX6_whose_19 (by decide) ?_
        refine zz_ci (WC := []) (TC := []) (WR := [(x, .inr (6, [.ref tx0, .ref nb, .ref tb, .ref ib, .ref ah, .ref tp, .ref rd, .ref sh, .ref sl, .ref wt, .int 0, .int 0, .int 0, .int 0, .int 0])), (sh, .inl (ksh, 4, .inr (.inr (.inr (.inr shf))))), (h0, .inr (2, [.int (-1), .int 0, .ref hv0])), (h1, .inr (2, [.int (-1), .int 0, .ref hv1])), (h2, .inr (2, [.int (-1), .int 0, .ref hv2])), (h3, .inr (2, [.int (-1), .int 0, .ref hv3]))]) (TR := [(ksh, .object RX2)]) (k := 0) (n := 0) Z8 [] [0, 1, 2, 3, 4, 5] [] [0] rfl rfl (by decide +kernel) (by decide +kernel) (by decide +kernel) rfl rfl (fun Zc => va_runS (As := [.int what, .int 0, .int 1]) (rest := []) X (c_within l D what 0 1 H5.size) (va_cwS 3 hts gX6_whose_X6_within rfl rfl rfl zh_X6_within ⟨Nat.le_of_ble_eq_true rfl, Nat.le_of_ble_eq_true rfl⟩) (zz_pS Zc) rfl rfl hl.1 rfl (lv_room (Nat.le_of_ble_eq_true rfl)) dX6_whose_20 ⟨Nat.le_of_ble_eq_true rfl, Nat.le_of_ble_eq_true rfl⟩) rfl rfl (fun r12 u10 H9 locs10 hw11 Z11 => ?_)
        clear Z8
        subst r12
        have Z12 : zz_S D A s [(x, .inr (6, [.ref tx0, .ref nb, .ref tb, .ref ib, .ref ah, .ref tp, .ref rd, .ref sh, .ref sl, .ref wt, .int 0, .int 0, .int 0, .int 0, .int 0])), (sh, .inl (ksh, 4, .inr (.inr (.inr (.inr shf))))), (h0, .inr (2, [.int (-1), .int 0, .ref hv0])), (h1, .inr (2, [.int (-1), .int 0, .ref hv1])), (h2, .inr (2, [.int (-1), .int 0, .ref hv2])), (h3, .inr (2, [.int (-1), .int 0, .ref hv3]))] [(ksh, .object RX2)] H9 locs10 := Z11
        clear Z11
        by_cases w13 : 0 ≤ what ∧ what ≤ 1
        · refine zz_v (v := 1) (zz_wiT w13) ?_
          refine lv_if_ne (tgt := 29) hx hb dX6_whose_23 (by decide) (fun _ => ?_) (fun h => absurd h (by decide))
          refine lv_aload_n hx hb dX6_whose_29 rfl (lv_at hl 0 rfl) ?_
          refine zz_get X Z12 0 rfl rfl (fun w h => List.mem_cons_of_mem _ (List.mem_append_left _ (List.mem_append_left _ (List.mem_append_left _ (List.mem_append_left _ (List.mem_append_right _ h)))))) 7 rfl (zz_m 2 rfl) rfl dX6_whose_30 ?_
          refine lv_iload_n hx hb dX6_whose_33 rfl (lv_at hl 1 rfl) ?_
          refine zz_ald X Z12 1 0 rfl rfl (zz_in 0 4 rfl) (v := .ref h0) ashf_0 dX6_whose_34 ?_
          refine zz_ci (WC := [(h0, .inr (2, [.int (-1), .int 0, .ref hv0]))]) (TC := []) (WR := [(x, .inr (6, [.ref tx0, .ref nb, .ref tb, .ref ib, .ref ah, .ref tp, .ref rd, .ref sh, .ref sl, .ref wt, .int 0, .int 0, .int 0, .int 0, .int 0])), (sh, .inl (ksh, 4, .inr (.inr (.inr (.inr shf))))), (h1, .inr (2, [.int (-1), .int 0, .ref hv1])), (h2, .inr (2, [.int (-1), .int 0, .ref hv2])), (h3, .inr (2, [.int (-1), .int 0, .ref hv3]))]) (TR := [(ksh, .object RX2)]) (k := 0) (n := 0) Z12 [2] [0, 1, 3, 4, 5] [] [0] rfl rfl (by decide +kernel) (by decide +kernel) (by decide +kernel) rfl rfl (fun Zc => va_runV (As := []) (rest := []) X (c_isMissing l D h0 0 hv0 H9.size) (cwV 0 hts gX6_whose_X2_isMissing rfl rfl rfl ⟨rfl, zh_X2_isMissing⟩ ⟨Nat.le_of_ble_eq_true rfl, Nat.le_of_ble_eq_true rfl⟩) (zz_pV (ci := 2) Zc 0 rfl rfl) rfl rfl hl.1 rfl (lv_room (Nat.le_of_ble_eq_true rfl)) dX6_whose_35 ⟨Nat.le_of_ble_eq_true rfl, Nat.le_of_ble_eq_true rfl⟩) rfl rfl (fun r16 u14 H13 locs14 hw15 Z15 => ?_)
          clear Z12
          have hw15 : r16 = 1 := hw15.trans (by decide)
          subst r16
          have Z16 : zz_S D A s [(x, .inr (6, [.ref tx0, .ref nb, .ref tb, .ref ib, .ref ah, .ref tp, .ref rd, .ref sh, .ref sl, .ref wt, .int 0, .int 0, .int 0, .int 0, .int 0])), (sh, .inl (ksh, 4, .inr (.inr (.inr (.inr shf))))), (h1, .inr (2, [.int (-1), .int 0, .ref hv1])), (h2, .inr (2, [.int (-1), .int 0, .ref hv2])), (h3, .inr (2, [.int (-1), .int 0, .ref hv3])), (h0, .inr (2, [.int (-1), .int 0, .ref hv0]))] [(ksh, .object RX2)] H13 locs14 := Z15
          clear Z15
          refine lv_if_eq (tgt := 44) hx hb dX6_whose_38 (by decide) (fun h => absurd h (by decide)) (fun _ => ?_)
          refine lv_ldc (v := (-1000000011)) hx hb hown (hts _ (zz_m 3 rfl)) dX6_whose_41 ?_
          exact zz_iret X hr hlk Z16 () (by simp [sp_whose, w9, w13]) [] [] (by decide +kernel) rfl rfl dX6_whose_43
        · refine zz_v (v := 0) (zz_wiF w13) ?_
          refine lv_if_ne (tgt := 29) hx hb dX6_whose_23 (by decide) (fun h => absurd (by decide) h) (fun _ => ?_)
          refine lv_ldc (v := (-1000000001)) hx hb hown (hts _ (zz_m 1 rfl)) dX6_whose_26 ?_
          exact zz_iret X hr hlk Z12 () (by simp [sp_whose, w9, w13]) [] [] (by decide +kernel) rfl rfl dX6_whose_28
      · refine zz_v (v := 0) (zz_wiF w9) ?_
        refine lv_if_eq (tgt := 26) hx hb dX6_whose_14 (by decide) (fun _ => ?_) (fun h => absurd (by decide) h)
        refine lv_ldc (v := (-1000000001)) hx hb hown (hts _ (zz_m 1 rfl)) dX6_whose_26 ?_
        exact zz_iret X hr hlk Z8 () (by simp [sp_whose, w9]) [] [] (by decide +kernel) rfl rfl dX6_whose_28
    · have e5 : sheet = 1 := e5
      subst e5
      refine zz_v (v := 1) (by decide) ?_
      refine lv_if_eq (tgt := 26) hx hb dX6_whose_4 (by decide) (fun h => absurd h (by decide)) (fun _ => ?_)
      refine lv_iload_n hx hb dX6_whose_7 rfl (lv_at hl 2 rfl) ?_
      refine lv_iconst (v := 0) hx hb dX6_whose_8 (by decide) ?_
      refine lv_bipush (v := 60) hx hb dX6_whose_9 (by decide) ?_
      refine zz_ci (WC := []) (TC := []) (WR := [(x, .inr (6, [.ref tx0, .ref nb, .ref tb, .ref ib, .ref ah, .ref tp, .ref rd, .ref sh, .ref sl, .ref wt, .int 0, .int 0, .int 0, .int 0, .int 0])), (sh, .inl (ksh, 4, .inr (.inr (.inr (.inr shf))))), (h0, .inr (2, [.int (-1), .int 0, .ref hv0])), (h1, .inr (2, [.int (-1), .int 0, .ref hv1])), (h2, .inr (2, [.int (-1), .int 0, .ref hv2])), (h3, .inr (2, [.int (-1), .int 0, .ref hv3]))]) (TR := [(ksh, .object RX2)]) (k := 0) (n := 0) Z4 [] [0, 1, 2, 3, 4, 5] [] [0] rfl rfl (by decide +kernel) (by decide +kernel) (by decide +kernel) rfl rfl (fun Zc => va_runS (As := [.int n, .int 0, .int 60]) (rest := []) X (c_within l D n 0 60 H1.size) (va_cwS 3 hts gX6_whose_X6_within rfl rfl rfl zh_X6_within ⟨Nat.le_of_ble_eq_true rfl, Nat.le_of_ble_eq_true rfl⟩) (zz_pS Zc) rfl rfl hl.1 rfl (lv_room (Nat.le_of_ble_eq_true rfl)) dX6_whose_11 ⟨Nat.le_of_ble_eq_true rfl, Nat.le_of_ble_eq_true rfl⟩) rfl rfl (fun r19 u17 H17 locs18 hw18 Z19 => ?_)
      clear Z4
      subst r19
      have Z20 : zz_S D A s [(x, .inr (6, [.ref tx0, .ref nb, .ref tb, .ref ib, .ref ah, .ref tp, .ref rd, .ref sh, .ref sl, .ref wt, .int 0, .int 0, .int 0, .int 0, .int 0])), (sh, .inl (ksh, 4, .inr (.inr (.inr (.inr shf))))), (h0, .inr (2, [.int (-1), .int 0, .ref hv0])), (h1, .inr (2, [.int (-1), .int 0, .ref hv1])), (h2, .inr (2, [.int (-1), .int 0, .ref hv2])), (h3, .inr (2, [.int (-1), .int 0, .ref hv3]))] [(ksh, .object RX2)] H17 locs18 := Z19
      clear Z19
      by_cases w20 : 0 ≤ n ∧ n ≤ 60
      · refine zz_v (v := 1) (zz_wiT w20) ?_
        refine lv_if_eq (tgt := 26) hx hb dX6_whose_14 (by decide) (fun h => absurd h (by decide)) (fun _ => ?_)
        refine lv_iload_n hx hb dX6_whose_17 rfl (lv_at hl 3 rfl) ?_
        refine lv_iconst (v := 0) hx hb dX6_whose_18 (by decide) ?_
        refine lv_iconst (v := 1) hx hb dX6_whose_19 (by decide) ?_
        refine zz_ci (WC := []) (TC := []) (WR := [(x, .inr (6, [.ref tx0, .ref nb, .ref tb, .ref ib, .ref ah, .ref tp, .ref rd, .ref sh, .ref sl, .ref wt, .int 0, .int 0, .int 0, .int 0, .int 0])), (sh, .inl (ksh, 4, .inr (.inr (.inr (.inr shf))))), (h0, .inr (2, [.int (-1), .int 0, .ref hv0])), (h1, .inr (2, [.int (-1), .int 0, .ref hv1])), (h2, .inr (2, [.int (-1), .int 0, .ref hv2])), (h3, .inr (2, [.int (-1), .int 0, .ref hv3]))]) (TR := [(ksh, .object RX2)]) (k := 0) (n := 0) Z20 [] [0, 1, 2, 3, 4, 5] [] [0] rfl rfl (by decide +kernel) (by decide +kernel) (by decide +kernel) rfl rfl (fun Zc => va_runS (As := [.int what, .int 0, .int 1]) (rest := []) X (c_within l D what 0 1 H17.size) (va_cwS 3 hts gX6_whose_X6_within rfl rfl rfl zh_X6_within ⟨Nat.le_of_ble_eq_true rfl, Nat.le_of_ble_eq_true rfl⟩) (zz_pS Zc) rfl rfl hl.1 rfl (lv_room (Nat.le_of_ble_eq_true rfl)) dX6_whose_20 ⟨Nat.le_of_ble_eq_true rfl, Nat.le_of_ble_eq_true rfl⟩) rfl rfl (fun r23 u21 H21 locs22 hw22 Z23 => ?_)
        clear Z20
        subst r23
        have Z24 : zz_S D A s [(x, .inr (6, [.ref tx0, .ref nb, .ref tb, .ref ib, .ref ah, .ref tp, .ref rd, .ref sh, .ref sl, .ref wt, .int 0, .int 0, .int 0, .int 0, .int 0])), (sh, .inl (ksh, 4, .inr (.inr (.inr (.inr shf))))), (h0, .inr (2, [.int (-1), .int 0, .ref hv0])), (h1, .inr (2, [.int (-1), .int 0, .ref hv1])), (h2, .inr (2, [.int (-1), .int 0, .ref hv2])), (h3, .inr (2, [.int (-1), .int 0, .ref hv3]))] [(ksh, .object RX2)] H21 locs22 := Z23
        clear Z23
        by_cases w24 : 0 ≤ what ∧ what ≤ 1
        · refine zz_v (v := 1) (zz_wiT w24) ?_
          refine lv_if_ne (tgt := 29) hx hb dX6_whose_23 (by decide) (fun _ => ?_) (fun h => absurd h (by decide))
          refine lv_aload_n hx hb dX6_whose_29 rfl (lv_at hl 0 rfl) ?_
          refine zz_get X Z24 0 rfl rfl (fun w h => List.mem_cons_of_mem _ (List.mem_append_left _ (List.mem_append_left _ (List.mem_append_left _ (List.mem_append_left _ (List.mem_append_right _ h)))))) 7 rfl (zz_m 2 rfl) rfl dX6_whose_30 ?_
          refine lv_iload_n hx hb dX6_whose_33 rfl (lv_at hl 1 rfl) ?_
          refine zz_ald X Z24 1 0 rfl rfl (zz_in 1 4 rfl) (v := .ref h1) ashf_1 dX6_whose_34 ?_
          refine zz_ci (WC := [(h1, .inr (2, [.int (-1), .int 0, .ref hv1]))]) (TC := []) (WR := [(x, .inr (6, [.ref tx0, .ref nb, .ref tb, .ref ib, .ref ah, .ref tp, .ref rd, .ref sh, .ref sl, .ref wt, .int 0, .int 0, .int 0, .int 0, .int 0])), (sh, .inl (ksh, 4, .inr (.inr (.inr (.inr shf))))), (h0, .inr (2, [.int (-1), .int 0, .ref hv0])), (h2, .inr (2, [.int (-1), .int 0, .ref hv2])), (h3, .inr (2, [.int (-1), .int 0, .ref hv3]))]) (TR := [(ksh, .object RX2)]) (k := 0) (n := 0) Z24 [3] [0, 1, 2, 4, 5] [] [0] rfl rfl (by decide +kernel) (by decide +kernel) (by decide +kernel) rfl rfl (fun Zc => va_runV (As := []) (rest := []) X (c_isMissing l D h1 0 hv1 H21.size) (cwV 0 hts gX6_whose_X2_isMissing rfl rfl rfl ⟨rfl, zh_X2_isMissing⟩ ⟨Nat.le_of_ble_eq_true rfl, Nat.le_of_ble_eq_true rfl⟩) (zz_pV (ci := 2) Zc 0 rfl rfl) rfl rfl hl.1 rfl (lv_room (Nat.le_of_ble_eq_true rfl)) dX6_whose_35 ⟨Nat.le_of_ble_eq_true rfl, Nat.le_of_ble_eq_true rfl⟩) rfl rfl (fun r27 u25 H25 locs26 hw26 Z27 => ?_)
          clear Z24
          have hw26 : r27 = 1 := hw26.trans (by decide)
          subst r27
          have Z28 : zz_S D A s [(x, .inr (6, [.ref tx0, .ref nb, .ref tb, .ref ib, .ref ah, .ref tp, .ref rd, .ref sh, .ref sl, .ref wt, .int 0, .int 0, .int 0, .int 0, .int 0])), (sh, .inl (ksh, 4, .inr (.inr (.inr (.inr shf))))), (h0, .inr (2, [.int (-1), .int 0, .ref hv0])), (h2, .inr (2, [.int (-1), .int 0, .ref hv2])), (h3, .inr (2, [.int (-1), .int 0, .ref hv3])), (h1, .inr (2, [.int (-1), .int 0, .ref hv1]))] [(ksh, .object RX2)] H25 locs26 := Z27
          clear Z27
          refine lv_if_eq (tgt := 44) hx hb dX6_whose_38 (by decide) (fun h => absurd h (by decide)) (fun _ => ?_)
          refine lv_ldc (v := (-1000000011)) hx hb hown (hts _ (zz_m 3 rfl)) dX6_whose_41 ?_
          exact zz_iret X hr hlk Z28 () (by simp [sp_whose, w20, w24]) [] [] (by decide +kernel) rfl rfl dX6_whose_43
        · refine zz_v (v := 0) (zz_wiF w24) ?_
          refine lv_if_ne (tgt := 29) hx hb dX6_whose_23 (by decide) (fun h => absurd (by decide) h) (fun _ => ?_)
          refine lv_ldc (v := (-1000000001)) hx hb hown (hts _ (zz_m 1 rfl)) dX6_whose_26 ?_
          exact zz_iret X hr hlk Z24 () (by simp [sp_whose, w20, w24]) [] [] (by decide +kernel) rfl rfl dX6_whose_28
      · refine zz_v (v := 0) (zz_wiF w20) ?_
        refine lv_if_eq (tgt := 26) hx hb dX6_whose_14 (by decide) (fun _ => ?_) (fun h => absurd (by decide) h)
        refine lv_ldc (v := (-1000000001)) hx hb hown (hts _ (zz_m 1 rfl)) dX6_whose_26 ?_
        exact zz_iret X hr hlk Z20 () (by simp [sp_whose, w20]) [] [] (by decide +kernel) rfl rfl dX6_whose_28
    · have e5 : sheet = 2 := e5
      subst e5
      refine zz_v (v := 1) (by decide) ?_
      refine lv_if_eq (tgt := 26) hx hb dX6_whose_4 (by decide) (fun h => absurd h (by decide)) (fun _ => ?_)
      refine lv_iload_n hx hb dX6_whose_7 rfl (lv_at hl 2 rfl) ?_
      refine lv_iconst (v := 0) hx hb dX6_whose_8 (by decide) ?_
      refine lv_bipush (v := 60) hx hb dX6_whose_9 (by decide) ?_
      refine zz_ci (WC := []) (TC := []) (WR := [(x, .inr (6, [.ref tx0, .ref nb, .ref tb, .ref ib, .ref ah, .ref tp, .ref rd, .ref sh, .ref sl, .ref wt, .int 0, .int 0, .int 0, .int 0, .int 0])), (sh, .inl (ksh, 4, .inr (.inr (.inr (.inr shf))))), (h0, .inr (2, [.int (-1), .int 0, .ref hv0])), (h1, .inr (2, [.int (-1), .int 0, .ref hv1])), (h2, .inr (2, [.int (-1), .int 0, .ref hv2])), (h3, .inr (2, [.int (-1), .int 0, .ref hv3]))]) (TR := [(ksh, .object RX2)]) (k := 0) (n := 0) Z4 [] [0, 1, 2, 3, 4, 5] [] [0] rfl rfl (by decide +kernel) (by decide +kernel) (by decide +kernel) rfl rfl (fun Zc => va_runS (As := [.int n, .int 0, .int 60]) (rest := []) X (c_within l D n 0 60 H1.size) (va_cwS 3 hts gX6_whose_X6_within rfl rfl rfl zh_X6_within ⟨Nat.le_of_ble_eq_true rfl, Nat.le_of_ble_eq_true rfl⟩) (zz_pS Zc) rfl rfl hl.1 rfl (lv_room (Nat.le_of_ble_eq_true rfl)) dX6_whose_11 ⟨Nat.le_of_ble_eq_true rfl, Nat.le_of_ble_eq_true rfl⟩) rfl rfl (fun r30 u28 H29 locs30 hw29 Z31 => ?_)
      clear Z4
      subst r30
      have Z32 : zz_S D A s [(x, .inr (6, [.ref tx0, .ref nb, .ref tb, .ref ib, .ref ah, .ref tp, .ref rd, .ref sh, .ref sl, .ref wt, .int 0, .int 0, .int 0, .int 0, .int 0])), (sh, .inl (ksh, 4, .inr (.inr (.inr (.inr shf))))), (h0, .inr (2, [.int (-1), .int 0, .ref hv0])), (h1, .inr (2, [.int (-1), .int 0, .ref hv1])), (h2, .inr (2, [.int (-1), .int 0, .ref hv2])), (h3, .inr (2, [.int (-1), .int 0, .ref hv3]))] [(ksh, .object RX2)] H29 locs30 := Z31
      clear Z31
      by_cases w31 : 0 ≤ n ∧ n ≤ 60
      · refine zz_v (v := 1) (zz_wiT w31) ?_
        refine lv_if_eq (tgt := 26) hx hb dX6_whose_14 (by decide) (fun h => absurd h (by decide)) (fun _ => ?_)
        refine lv_iload_n hx hb dX6_whose_17 rfl (lv_at hl 3 rfl) ?_
        refine lv_iconst (v := 0) hx hb dX6_whose_18 (by decide) ?_
        refine lv_iconst (v := 1) hx hb dX6_whose_19 (by decide) ?_
        refine zz_ci (WC := []) (TC := []) (WR := [(x, .inr (6, [.ref tx0, .ref nb, .ref tb, .ref ib, .ref ah, .ref tp, .ref rd, .ref sh, .ref sl, .ref wt, .int 0, .int 0, .int 0, .int 0, .int 0])), (sh, .inl (ksh, 4, .inr (.inr (.inr (.inr shf))))), (h0, .inr (2, [.int (-1), .int 0, .ref hv0])), (h1, .inr (2, [.int (-1), .int 0, .ref hv1])), (h2, .inr (2, [.int (-1), .int 0, .ref hv2])), (h3, .inr (2, [.int (-1), .int 0, .ref hv3]))]) (TR := [(ksh, .object RX2)]) (k := 0) (n := 0) Z32 [] [0, 1, 2, 3, 4, 5] [] [0] rfl rfl (by decide +kernel) (by decide +kernel) (by decide +kernel) rfl rfl (fun Zc => va_runS (As := [.int what, .int 0, .int 1]) (rest := []) X (c_within l D what 0 1 H29.size) (va_cwS 3 hts gX6_whose_X6_within rfl rfl rfl zh_X6_within ⟨Nat.le_of_ble_eq_true rfl, Nat.le_of_ble_eq_true rfl⟩) (zz_pS Zc) rfl rfl hl.1 rfl (lv_room (Nat.le_of_ble_eq_true rfl)) dX6_whose_20 ⟨Nat.le_of_ble_eq_true rfl, Nat.le_of_ble_eq_true rfl⟩) rfl rfl (fun r34 u32 H33 locs34 hw33 Z35 => ?_)
        clear Z32
        subst r34
        have Z36 : zz_S D A s [(x, .inr (6, [.ref tx0, .ref nb, .ref tb, .ref ib, .ref ah, .ref tp, .ref rd, .ref sh, .ref sl, .ref wt, .int 0, .int 0, .int 0, .int 0, .int 0])), (sh, .inl (ksh, 4, .inr (.inr (.inr (.inr shf))))), (h0, .inr (2, [.int (-1), .int 0, .ref hv0])), (h1, .inr (2, [.int (-1), .int 0, .ref hv1])), (h2, .inr (2, [.int (-1), .int 0, .ref hv2])), (h3, .inr (2, [.int (-1), .int 0, .ref hv3]))] [(ksh, .object RX2)] H33 locs34 := Z35
        clear Z35
        by_cases w35 : 0 ≤ what ∧ what ≤ 1
        · refine zz_v (v := 1) (zz_wiT w35) ?_
          refine lv_if_ne (tgt := 29) hx hb dX6_whose_23 (by decide) (fun _ => ?_) (fun h => absurd h (by decide))
          refine lv_aload_n hx hb dX6_whose_29 rfl (lv_at hl 0 rfl) ?_
          refine zz_get X Z36 0 rfl rfl (fun w h => List.mem_cons_of_mem _ (List.mem_append_left _ (List.mem_append_left _ (List.mem_append_left _ (List.mem_append_left _ (List.mem_append_right _ h)))))) 7 rfl (zz_m 2 rfl) rfl dX6_whose_30 ?_
          refine lv_iload_n hx hb dX6_whose_33 rfl (lv_at hl 1 rfl) ?_
          refine zz_ald X Z36 1 0 rfl rfl (zz_in 2 4 rfl) (v := .ref h2) ashf_2 dX6_whose_34 ?_
          refine zz_ci (WC := [(h2, .inr (2, [.int (-1), .int 0, .ref hv2]))]) (TC := []) (WR := [(x, .inr (6, [.ref tx0, .ref nb, .ref tb, .ref ib, .ref ah, .ref tp, .ref rd, .ref sh, .ref sl, .ref wt, .int 0, .int 0, .int 0, .int 0, .int 0])), (sh, .inl (ksh, 4, .inr (.inr (.inr (.inr shf))))), (h0, .inr (2, [.int (-1), .int 0, .ref hv0])), (h1, .inr (2, [.int (-1), .int 0, .ref hv1])), (h3, .inr (2, [.int (-1), .int 0, .ref hv3]))]) (TR := [(ksh, .object RX2)]) (k := 0) (n := 0) Z36 [4] [0, 1, 2, 3, 5] [] [0] rfl rfl (by decide +kernel) (by decide +kernel) (by decide +kernel) rfl rfl (fun Zc => va_runV (As := []) (rest := []) X (c_isMissing l D h2 0 hv2 H33.size) (cwV 0 hts gX6_whose_X2_isMissing rfl rfl rfl ⟨rfl, zh_X2_isMissing⟩ ⟨Nat.le_of_ble_eq_true rfl, Nat.le_of_ble_eq_true rfl⟩) (zz_pV (ci := 2) Zc 0 rfl rfl) rfl rfl hl.1 rfl (lv_room (Nat.le_of_ble_eq_true rfl)) dX6_whose_35 ⟨Nat.le_of_ble_eq_true rfl, Nat.le_of_ble_eq_true rfl⟩) rfl rfl (fun r38 u36 H37 locs38 hw37 Z39 => ?_)
          clear Z36
          have hw37 : r38 = 1 := hw37.trans (by decide)
          subst r38
          have Z40 : zz_S D A s [(x, .inr (6, [.ref tx0, .ref nb, .ref tb, .ref ib, .ref ah, .ref tp, .ref rd, .ref sh, .ref sl, .ref wt, .int 0, .int 0, .int 0, .int 0, .int 0])), (sh, .inl (ksh, 4, .inr (.inr (.inr (.inr shf))))), (h0, .inr (2, [.int (-1), .int 0, .ref hv0])), (h1, .inr (2, [.int (-1), .int 0, .ref hv1])), (h3, .inr (2, [.int (-1), .int 0, .ref hv3])), (h2, .inr (2, [.int (-1), .int 0, .ref hv2]))] [(ksh, .object RX2)] H37 locs38 := Z39
          clear Z39
          refine lv_if_eq (tgt := 44) hx hb dX6_whose_38 (by decide) (fun h => absurd h (by decide)) (fun _ => ?_)
          refine lv_ldc (v := (-1000000011)) hx hb hown (hts _ (zz_m 3 rfl)) dX6_whose_41 ?_
          exact zz_iret X hr hlk Z40 () (by simp [sp_whose, w31, w35]) [] [] (by decide +kernel) rfl rfl dX6_whose_43
        · refine zz_v (v := 0) (zz_wiF w35) ?_
          refine lv_if_ne (tgt := 29) hx hb dX6_whose_23 (by decide) (fun h => absurd (by decide) h) (fun _ => ?_)
          refine lv_ldc (v := (-1000000001)) hx hb hown (hts _ (zz_m 1 rfl)) dX6_whose_26 ?_
          exact zz_iret X hr hlk Z36 () (by simp [sp_whose, w31, w35]) [] [] (by decide +kernel) rfl rfl dX6_whose_28
      · refine zz_v (v := 0) (zz_wiF w31) ?_
        refine lv_if_eq (tgt := 26) hx hb dX6_whose_14 (by decide) (fun _ => ?_) (fun h => absurd (by decide) h)
        refine lv_ldc (v := (-1000000001)) hx hb hown (hts _ (zz_m 1 rfl)) dX6_whose_26 ?_
        exact zz_iret X hr hlk Z32 () (by simp [sp_whose, w31]) [] [] (by decide +kernel) rfl rfl dX6_whose_28
    · have e5 : sheet = 3 := e5
      subst e5
      refine zz_v (v := 1) (by decide) ?_
      refine lv_if_eq (tgt := 26) hx hb dX6_whose_4 (by decide) (fun h => absurd h (by decide)) (fun _ => ?_)
      refine lv_iload_n hx hb dX6_whose_7 rfl (lv_at hl 2 rfl) ?_
      refine lv_iconst (v := 0) hx hb dX6_whose_8 (by decide) ?_
      refine lv_bipush (v := 60) hx hb dX6_whose_9 (by decide) ?_
      refine zz_ci (WC := []) (TC := []) (WR := [(x, .inr (6, [.ref tx0, .ref nb, .ref tb, .ref ib, .ref ah, .ref tp, .ref rd, .ref sh, .ref sl, .ref wt, .int 0, .int 0, .int 0, .int 0, .int 0])), (sh, .inl (ksh, 4, .inr (.inr (.inr (.inr shf))))), (h0, .inr (2, [.int (-1), .int 0, .ref hv0])), (h1, .inr (2, [.int (-1), .int 0, .ref hv1])), (h2, .inr (2, [.int (-1), .int 0, .ref hv2])), (h3, .inr (2, [.int (-1), .int 0, .ref hv3]))]) (TR := [(ksh, .object RX2)]) (k := 0) (n := 0) Z4 [] [0, 1, 2, 3, 4, 5] [] [0] rfl rfl (by decide +kernel) (by decide +kernel) (by decide +kernel) rfl rfl (fun Zc => va_runS (As := [.int n, .int 0, .int 60]) (rest := []) X (c_within l D n 0 60 H1.size) (va_cwS 3 hts gX6_whose_X6_within rfl rfl rfl zh_X6_within ⟨Nat.le_of_ble_eq_true rfl, Nat.le_of_ble_eq_true rfl⟩) (zz_pS Zc) rfl rfl hl.1 rfl (lv_room (Nat.le_of_ble_eq_true rfl)) dX6_whose_11 ⟨Nat.le_of_ble_eq_true rfl, Nat.le_of_ble_eq_true rfl⟩) rfl rfl (fun r41 u39 H41 locs42 hw40 Z43 => ?_)
      clear Z4
      subst r41
      have Z44 : zz_S D A s [(x, .inr (6, [.ref tx0, .ref nb, .ref tb, .ref ib, .ref ah, .ref tp, .ref rd, .ref sh, .ref sl, .ref wt, .int 0, .int 0, .int 0, .int 0, .int 0])), (sh, .inl (ksh, 4, .inr (.inr (.inr (.inr shf))))), (h0, .inr (2, [.int (-1), .int 0, .ref hv0])), (h1, .inr (2, [.int (-1), .int 0, .ref hv1])), (h2, .inr (2, [.int (-1), .int 0, .ref hv2])), (h3, .inr (2, [.int (-1), .int 0, .ref hv3]))] [(ksh, .object RX2)] H41 locs42 := Z43
      clear Z43
      by_cases w42 : 0 ≤ n ∧ n ≤ 60
      · refine zz_v (v := 1) (zz_wiT w42) ?_
        refine lv_if_eq (tgt := 26) hx hb dX6_whose_14 (by decide) (fun h => absurd h (by decide)) (fun _ => ?_)
        refine lv_iload_n hx hb dX6_whose_17 rfl (lv_at hl 3 rfl) ?_
        refine lv_iconst (v := 0) hx hb dX6_whose_18 (by decide) ?_
        refine lv_iconst (v := 1) hx hb dX6_whose_19 (by decide) ?_
        refine zz_ci (WC := []) (TC := []) (WR := [(x, .inr (6, [.ref tx0, .ref nb, .ref tb, .ref ib, .ref ah, .ref tp, .ref rd, .ref sh, .ref sl, .ref wt, .int 0, .int 0, .int 0, .int 0, .int 0])), (sh, .inl (ksh, 4, .inr (.inr (.inr (.inr shf))))), (h0, .inr (2, [.int (-1), .int 0, .ref hv0])), (h1, .inr (2, [.int (-1), .int 0, .ref hv1])), (h2, .inr (2, [.int (-1), .int 0, .ref hv2])), (h3, .inr (2, [.int (-1), .int 0, .ref hv3]))]) (TR := [(ksh, .object RX2)]) (k := 0) (n := 0) Z44 [] [0, 1, 2, 3, 4, 5] [] [0] rfl rfl (by decide +kernel) (by decide +kernel) (by decide +kernel) rfl rfl (fun Zc => va_runS (As := [.int what, .int 0, .int 1]) (rest := []) X (c_within l D what 0 1 H41.size) (va_cwS 3 hts gX6_whose_X6_within rfl rfl rfl zh_X6_within ⟨Nat.le_of_ble_eq_true rfl, Nat.le_of_ble_eq_true rfl⟩) (zz_pS Zc) rfl rfl hl.1 rfl (lv_room (Nat.le_of_ble_eq_true rfl)) dX6_whose_20 ⟨Nat.le_of_ble_eq_true rfl, Nat.le_of_ble_eq_true rfl⟩) rfl rfl (fun r45 u43 H45 locs46 hw44 Z47 => ?_)
        clear Z44
        subst r45
        have Z48 : zz_S D A s [(x, .inr (6, [.ref tx0, .ref nb, .ref tb, .ref ib, .ref ah, .ref tp, .ref rd, .ref sh, .ref sl, .ref wt, .int 0, .int 0, .int 0, .int 0, .int 0])), (sh, .inl (ksh, 4, .inr (.inr (.inr (.inr shf))))), (h0, .inr (2, [.int (-1), .int 0, .ref hv0])), (h1, .inr (2, [.int (-1), .int 0, .ref hv1])), (h2, .inr (2, [.int (-1), .int 0, .ref hv2])), (h3, .inr (2, [.int (-1), .int 0, .ref hv3]))] [(ksh, .object RX2)] H45 locs46 := Z47
        clear Z47
        by_cases w46 : 0 ≤ what ∧ what ≤ 1
        · refine zz_v (v := 1) (zz_wiT w46) ?_
          refine lv_if_ne (tgt := 29) hx hb dX6_whose_23 (by decide) (fun _ => ?_) (fun h => absurd h (by decide))
          refine lv_aload_n hx hb dX6_whose_29 rfl (lv_at hl 0 rfl) ?_
          refine zz_get X Z48 0 rfl rfl (fun w h => List.mem_cons_of_mem _ (List.mem_append_left _ (List.mem_append_left _ (List.mem_append_left _ (List.mem_append_left _ (List.mem_append_right _ h)))))) 7 rfl (zz_m 2 rfl) rfl dX6_whose_30 ?_
          refine lv_iload_n hx hb dX6_whose_33 rfl (lv_at hl 1 rfl) ?_
          refine zz_ald X Z48 1 0 rfl rfl (zz_in 3 4 rfl) (v := .ref h3) ashf_3 dX6_whose_34 ?_
          refine zz_ci (WC := [(h3, .inr (2, [.int (-1), .int 0, .ref hv3]))]) (TC := []) (WR := [(x, .inr (6, [.ref tx0, .ref nb, .ref tb, .ref ib, .ref ah, .ref tp, .ref rd, .ref sh, .ref sl, .ref wt, .int 0, .int 0, .int 0, .int 0, .int 0])), (sh, .inl (ksh, 4, .inr (.inr (.inr (.inr shf))))), (h0, .inr (2, [.int (-1), .int 0, .ref hv0])), (h1, .inr (2, [.int (-1), .int 0, .ref hv1])), (h2, .inr (2, [.int (-1), .int 0, .ref hv2]))]) (TR := [(ksh, .object RX2)]) (k := 0) (n := 0) Z48 [5] [0, 1, 2, 3, 4] [] [0] rfl rfl (by decide +kernel) (by decide +kernel) (by decide +kernel) rfl rfl (fun Zc => va_runV (As := []) (rest := []) X (c_isMissing l D h3 0 hv3 H45.size) (cwV 0 hts gX6_whose_X2_isMissing rfl rfl rfl ⟨rfl, zh_X2_isMissing⟩ ⟨Nat.le_of_ble_eq_true rfl, Nat.le_of_ble_eq_true rfl⟩) (zz_pV (ci := 2) Zc 0 rfl rfl) rfl rfl hl.1 rfl (lv_room (Nat.le_of_ble_eq_true rfl)) dX6_whose_35 ⟨Nat.le_of_ble_eq_true rfl, Nat.le_of_ble_eq_true rfl⟩) rfl rfl (fun r49 u47 H49 locs50 hw48 Z51 => ?_)
          clear Z48
          have hw48 : r49 = 1 := hw48.trans (by decide)
          subst r49
          have Z52 : zz_S D A s [(x, .inr (6, [.ref tx0, .ref nb, .ref tb, .ref ib, .ref ah, .ref tp, .ref rd, .ref sh, .ref sl, .ref wt, .int 0, .int 0, .int 0, .int 0, .int 0])), (sh, .inl (ksh, 4, .inr (.inr (.inr (.inr shf))))), (h0, .inr (2, [.int (-1), .int 0, .ref hv0])), (h1, .inr (2, [.int (-1), .int 0, .ref hv1])), (h2, .inr (2, [.int (-1), .int 0, .ref hv2])), (h3, .inr (2, [.int (-1), .int 0, .ref hv3]))] [(ksh, .object RX2)] H49 locs50 := Z51
          clear Z51
          refine lv_if_eq (tgt := 44) hx hb dX6_whose_38 (by decide) (fun h => absurd h (by decide)) (fun _ => ?_)
          refine lv_ldc (v := (-1000000011)) hx hb hown (hts _ (zz_m 3 rfl)) dX6_whose_41 ?_
          exact zz_iret X hr hlk Z52 () (by simp [sp_whose, w42, w46]) [] [] (by decide +kernel) rfl rfl dX6_whose_43
        · refine zz_v (v := 0) (zz_wiF w46) ?_
          refine lv_if_ne (tgt := 29) hx hb dX6_whose_23 (by decide) (fun h => absurd (by decide) h) (fun _ => ?_)
          refine lv_ldc (v := (-1000000001)) hx hb hown (hts _ (zz_m 1 rfl)) dX6_whose_26 ?_
          exact zz_iret X hr hlk Z48 () (by simp [sp_whose, w42, w46]) [] [] (by decide +kernel) rfl rfl dX6_whose_28
      · refine zz_v (v := 0) (zz_wiF w42) ?_
        refine lv_if_eq (tgt := 26) hx hb dX6_whose_14 (by decide) (fun _ => ?_) (fun h => absurd (by decide) h)
        refine lv_ldc (v := (-1000000001)) hx hb hown (hts _ (zz_m 1 rfl)) dX6_whose_26 ?_
        exact zz_iret X hr hlk Z44 () (by simp [sp_whose, w42]) [] [] (by decide +kernel) rfl rfl dX6_whose_28
  · refine zz_v (v := 0) (zz_wiF w4) ?_
    refine lv_if_eq (tgt := 26) hx hb dX6_whose_4 (by decide) (fun _ => ?_) (fun h => absurd (by decide) h)
    refine lv_ldc (v := (-1000000001)) hx hb hown (hts _ (zz_m 1 rfl)) dX6_whose_26 ?_
    exact zz_iret X hr hlk Z4 () (by simp [sp_whose, w4]) [] [] (by decide +kernel) rfl rfl dX6_whose_28

set_option maxHeartbeats 4000000 in
set_option maxRecDepth 100000 in
theorem c6_copy (l : Launch) (D : va_G) (x : Nat) (tx0 : Nat) (nb : Nat) (tb : Nat) (ib : Nat) (ah : Nat) (tp : Nat) (rd : Nat) (sh : Nat) (sl : Nat) (wt : Nat) (ksh : ClassId) (shf : (Nat → Option Nat)) (h0 : Nat) (h1 : Nat) (h2 : Nat) (h3 : Nat) (hv0 : Nat) (hv1 : Nat) (hv2 : Nat) (hv3 : Nat) (f1 : Int32) (f2 : Int32) (f3 : Int32) (f4 : Int32) (f5 : Int32) (ashf_0 : va_rf (shf 0) = .ref h0) (ashf_1 : va_rf (shf 1) = .ref h1) (ashf_2 : va_rf (shf 2) = .ref h2) (ashf_3 : va_rf (shf 3) = .ref h3) : zz_MI l yX6_copy wsX6_copy 2 42 0 0 D [.ref x, .int f1, .int f2, .int f3, .int f4, .int f5] [(x, .inr (6, [.ref tx0, .ref nb, .ref tb, .ref ib, .ref ah, .ref tp, .ref rd, .ref sh, .ref sl, .ref wt, .int 0, .int 0, .int 0, .int 0, .int 0])), (sh, .inl (ksh, 4, .inr (.inr (.inr (.inr shf))))), (h0, .inr (2, [.int (-1), .int 0, .ref hv0])), (h1, .inr (2, [.int (-1), .int 0, .ref hv1])), (h2, .inr (2, [.int (-1), .int 0, .ref hv2])), (h3, .inr (2, [.int (-1), .int 0, .ref hv3]))] [(ksh, .object RX2)] (fun (r : Int32) (u : Unit) => r = sp_copy f1 f3) (fun (u : Unit) => []) (fun (u : Unit) => []) := by
  intro sz
  refine Met.ofW (cc := cX6_copy) (maxL := 8) (ret := (some .int)) (by decide) rfl ?_
  intro p e s m args below meth c s₁ B hml hv
  obtain ⟨rfl, hC⟩ := hv
  have hx := B.exec
  have hb := B.bytes
  have hr := B.returns
  have hts := atoms_spec (ws := wsX6_copy) B.pre
  have hown : s.vm.findClass RX6 = some m.cls := findClass_of_methodNamed B.named
  have hlk := B.notSynchronized
  have X : CallFix p m c cX6_copy 8 s _ wsX6_copy RX6 := ⟨hx, hb, hml, hown, hts⟩
  have Z := zz_enter hC
  generalize va_A [(x, .inr (6, [.ref tx0, .ref nb, .ref tb, .ref ib, .ref ah, .ref tp, .ref rd, .ref sh, .ref sl, .ref wt, .int 0, .int 0, .int 0, .int 0, .int 0])), (sh, .inl (ksh, 4, .inr (.inr (.inr (.inr shf))))), (h0, .inr (2, [.int (-1), .int 0, .ref hv0])), (h1, .inr (2, [.int (-1), .int 0, .ref hv1])), (h2, .inr (2, [.int (-1), .int 0, .ref hv2])), (h3, .inr (2, [.int (-1), .int 0, .ref hv3]))] sz = A at Z ⊢
  have hl := lv_entry ([.ref x, .int f1, .int f2, .int f3, .int f4, .int f5]) (n := 8) (Nat.le_of_ble_eq_true rfl)
  rw [lg_entry_eq]
  generalize (lg_sl ([.ref x, .int f1, .int f2, .int f3, .int f4, .int f5]) ++ List.replicate (8 - (lg_sl ([.ref x, .int f1, .int f2, .int f3, .int f4, .int f5])).length) Slot.unset).toArray = ls at hl ⊢
  have hl : lv_has ls 8 [(0, .ref x), (1, .int f1), (2, .int f2), (3, .int f3), (4, .int f4), (5, .int f5)] := hl
  refine lv_iload_n hx hb dX6_copy_0 rfl (lv_at hl 1 rfl) ?_
  refine zz_ci (WC := []) (TC := []) (WR := [(x, .inr (6, [.ref tx0, .ref nb, .ref tb, .ref ib, .ref ah, .ref tp, .ref rd, .ref sh, .ref sl, .ref wt, .int 0, .int 0, .int 0, .int 0, .int 0])), (sh, .inl (ksh, 4, .inr (.inr (.inr (.inr shf))))), (h0, .inr (2, [.int (-1), .int 0, .ref hv0])), (h1, .inr (2, [.int (-1), .int 0, .ref hv1])), (h2, .inr (2, [.int (-1), .int 0, .ref hv2])), (h3, .inr (2, [.int (-1), .int 0, .ref hv3]))]) (TR := [(ksh, .object RX2)]) (k := 0) (n := 0) Z [] [0, 1, 2, 3, 4, 5] [] [0] rfl rfl (by decide +kernel) (by decide +kernel) (by decide +kernel) rfl rfl (fun Zc => va_runS (As := [.int f1]) (rest := []) X (c_isSheet l D f1 s.heap.size) (va_cwS 1 hts gX6_copy_X6_isSheet rfl rfl rfl zh_X6_isSheet ⟨Nat.le_of_ble_eq_true rfl, Nat.le_of_ble_eq_true rfl⟩) (zz_pS Zc) rfl rfl hl.1 rfl (lv_room (Nat.le_of_ble_eq_true rfl)) dX6_copy_1 ⟨Nat.le_of_ble_eq_true rfl, Nat.le_of_ble_eq_true rfl⟩) rfl rfl (fun r3 u1 H1 locs2 hw2 Z3 => ?_)
  clear Z
  subst r3
  have Z4 : zz_S D A s [(x, .inr (6, [.ref tx0, .ref nb, .ref tb, .ref ib, .ref ah, .ref tp, .ref rd, .ref sh, .ref sl, .ref wt, .int 0, .int 0, .int 0, .int 0, .int 0])), (sh, .inl (ksh, 4, .inr (.inr (.inr (.inr shf))))), (h0, .inr (2, [.int (-1), .int 0, .ref hv0])), (h1, .inr (2, [.int (-1), .int 0, .ref hv1])), (h2, .inr (2, [.int (-1), .int 0, .ref hv2])), (h3, .inr (2, [.int (-1), .int 0, .ref hv3]))] [(ksh, .object RX2)] H1 locs2 := Z3
  clear Z3
  by_cases w4 : 0 ≤ f1 ∧ f1 ≤ 3
  · obtain ⟨j, hj, e5⟩ := zz_rng 3 w4 (by decide)
    rcases (show j = 0 ∨ j = 1 ∨ j = 2 ∨ j = 3 by omega) with rfl | rfl | rfl | rfl
    · have e5 : f1 = 0 := e5
      subst e5
      refine zz_v (v := 1) (by decide) ?_
      refine lv_if_eq (tgt := 14) hx hb dX6_copy_4 (by decide) (fun h => absurd h (by decide)) (fun _ => ?_)
      refine lv_iload_n hx hb dX6_copy_7 rfl (lv_at hl 3 rfl) ?_
      refine zz_ci (WC := []) (TC := []) (WR := [(x, .inr (6, [.ref tx0, .ref nb, .ref tb, .ref ib, .ref ah, .ref tp, .ref rd, .ref sh, .ref sl, .ref wt, .int 0, .int 0, .int 0, .int 0, .int 0])), (sh, .inl (ksh, 4, .inr (.inr (.inr (.inr shf))))), (h0, .inr (2, [.int (-1), .int 0, .ref hv0])), (h1, .inr (2, [.int (-1), .int 0, .ref hv1])), (h2, .inr (2, [.int (-1), .int 0, .ref hv2])), (h3, .inr (2, [.int (-1), .int 0, .ref hv3]))]) (TR := [(ksh, .object RX2)]) (k := 0) (n := 0) Z4 [] [0, 1, 2, 3, 4, 5] [] [0] rfl rfl (by decide +kernel) (by decide +kernel) (by decide +kernel) rfl rfl (fun Zc => va_runS (As := [.int f3]) (rest := []) X (c_isSheet l D f3 H1.size) (va_cwS 1 hts gX6_copy_X6_isSheet rfl rfl rfl zh_X6_isSheet ⟨Nat.le_of_ble_eq_true rfl, Nat.le_of_ble_eq_true rfl⟩) (zz_pS Zc) rfl rfl hl.1 rfl (lv_room (Nat.le_of_ble_eq_true rfl)) dX6_copy_8 ⟨Nat.le_of_ble_eq_true rfl, Nat.le_of_ble_eq_true rfl⟩) rfl rfl (fun r8 u6 H5 locs6 hw7 Z7 => ?_)
      clear Z4
      subst r8
      have Z8 : zz_S D A s [(x, .inr (6, [.ref tx0, .ref nb, .ref tb, .ref ib, .ref ah, .ref tp, .ref rd, .ref sh, .ref sl, .ref wt, .int 0, .int 0, .int 0, .int 0, .int 0])), (sh, .inl (ksh, 4, .inr (.inr (.inr (.inr shf))))), (h0, .inr (2, [.int (-1), .int 0, .ref hv0])), (h1, .inr (2, [.int (-1), .int 0, .ref hv1])), (h2, .inr (2, [.int (-1), .int 0, .ref hv2])), (h3, .inr (2, [.int (-1), .int 0, .ref hv3]))] [(ksh, .object RX2)] H5 locs6 := Z7
      clear Z7
      by_cases w9 : 0 ≤ f3 ∧ f3 ≤ 3
      · obtain ⟨j, hj, e10⟩ := zz_rng 3 w9 (by decide)
        rcases (show j = 0 ∨ j = 1 ∨ j = 2 ∨ j = 3 by omega) with rfl | rfl | rfl | rfl
        · have e10 : f3 = 0 := e10
          subst e10
          refine zz_v (v := 1) (by decide) ?_
          refine lv_if_ne (tgt := 17) hx hb dX6_copy_11 (by decide) (fun _ => ?_) (fun h => absurd h (by decide))
          refine lv_aload_n hx hb dX6_copy_17 rfl (lv_at hl 0 rfl) ?_
          refine zz_get X Z8 0 rfl rfl (fun w h => List.mem_cons_of_mem _ (List.mem_append_left _ (List.mem_append_right _ h))) 7 rfl (zz_m 2 rfl) rfl dX6_copy_18 ?_
          refine lv_iload_n hx hb dX6_copy_21 rfl (lv_at hl 1 rfl) ?_
          refine zz_ald X Z8 1 0 rfl rfl (zz_in 0 4 rfl) (v := .ref h0) ashf_0 dX6_copy_22 ?_
          refine lv_astore (lv' := [(6, .ref h0), (0, .ref x), (1, .int 0), (2, .int f2), (3, .int 0), (4, .int f4), (5, .int f5)]) hx hb dX6_copy_23 hl (by decide) rfl (fun ls9 hl10 => ?_)
          clear hl
          refine lv_aload_n hx hb dX6_copy_25 rfl (lv_at hl10 1 rfl) ?_
          refine zz_get X Z8 0 rfl rfl (fun w h => List.mem_cons_of_mem _ (List.mem_append_left _ (List.mem_append_right _ h))) 7 rfl (zz_m 2 rfl) rfl dX6_copy_26 ?_
          refine lv_iload_n hx hb dX6_copy_29 rfl (lv_at hl10 4 rfl) ?_
          refine zz_ald X Z8 1 0 rfl rfl (zz_in 0 4 rfl) (v := .ref h0) ashf_0 dX6_copy_30 ?_
          refine lv_astore (lv' := [(7, .ref h0), (6, .ref h0), (0, .ref x), (1, .int 0), (2, .int f2), (3, .int 0), (4, .int f4), (5, .int f5)]) hx hb dX6_copy_31 hl10 (by decide) rfl (fun ls11 hl12 => ?_)
          clear hl10
          refine lv_aload hx hb dX6_copy_33 (lv_at hl12 1 rfl) ?_
          refine zz_ci (WC := [(h0, .inr (2, [.int (-1), .int 0, .ref hv0]))]) (TC := []) (WR := [(x, .inr (6, [.ref tx0, .ref nb, .ref tb, .ref ib, .ref ah, .ref tp, .ref rd, .ref sh, .ref sl, .ref wt, .int 0, .int 0, .int 0, .int 0, .int 0])), (sh, .inl (ksh, 4, .inr (.inr (.inr (.inr shf))))), (h1, .inr (2, [.int (-1), .int 0, .ref hv1])), (h2, .inr (2, [.int (-1), .int 0, .ref hv2])), (h3, .inr (2, [.int (-1), .int 0, .ref hv3]))]) (TR := [(ksh, .object RX2)]) (k := 0) (n := 0) Z8 [2] [0, 1, 3, 4, 5] [] [0] rfl rfl (by decide +kernel) (by decide +kernel) (by decide +kernel) rfl rfl (fun Zc => va_runV (As := []) (rest := []) X (c_isMissing l D h0 0 hv0 H5.size) (cwV 0 hts gX6_copy_X2_isMissing rfl rfl rfl ⟨rfl, zh_X2_isMissing⟩ ⟨Nat.le_of_ble_eq_true rfl, Nat.le_of_ble_eq_true rfl⟩) (zz_pV (ci := 2) Zc 0 rfl rfl) rfl rfl hl12.1 rfl (lv_room (Nat.le_of_ble_eq_true rfl)) dX6_copy_35 ⟨Nat.le_of_ble_eq_true rfl, Nat.le_of_ble_eq_true rfl⟩) rfl rfl (fun r13 u11 H13 locs14 hw12 Z15 => ?_)
          clear Z8
          have hw12 : r13 = 1 := hw12.trans (by decide)
          subst r13
          have Z16 : zz_S D A s [(x, .inr (6, [.ref tx0, .ref nb, .ref tb, .ref ib, .ref ah, .ref tp, .ref rd, .ref sh, .ref sl, .ref wt, .int 0, .int 0, .int 0, .int 0, .int 0])), (sh, .inl (ksh, 4, .inr (.inr (.inr (.inr shf))))), (h1, .inr (2, [.int (-1), .int 0, .ref hv1])), (h2, .inr (2, [.int (-1), .int 0, .ref hv2])), (h3, .inr (2, [.int (-1), .int 0, .ref hv3])), (h0, .inr (2, [.int (-1), .int 0, .ref hv0]))] [(ksh, .object RX2)] H13 locs14 := Z15
          clear Z15
          refine lv_if_ne (tgt := 49) hx hb dX6_copy_38 (by decide) (fun _ => ?_) (fun h => absurd h (by decide))
          refine lv_ldc (v := (-1000000011)) hx hb hown (hts _ (zz_m 3 rfl)) dX6_copy_49 ?_
          exact zz_iret X hr hlk Z16 () (by simp [sp_copy]) [] [] (by decide +kernel) rfl rfl dX6_copy_51
        · have e10 : f3 = 1 := e10
          subst e10
          refine zz_v (v := 1) (by decide) ?_
          refine lv_if_ne (tgt := 17) hx hb dX6_copy_11 (by decide) (fun _ => ?_) (fun h => absurd h (by decide))
          refine lv_aload_n hx hb dX6_copy_17 rfl (lv_at hl 0 rfl) ?_
          refine zz_get X Z8 0 rfl rfl (fun w h => List.mem_cons_of_mem _ (List.mem_append_left _ (List.mem_append_right _ h))) 7 rfl (zz_m 2 rfl) rfl dX6_copy_18 ?_
          refine lv_iload_n hx hb dX6_copy_21 rfl (lv_at hl 1 rfl) ?_
          refine zz_ald X Z8 1 0 rfl rfl (zz_in 0 4 rfl) (v := .ref h0) ashf_0 dX6_copy_22 ?_
          refine lv_astore (lv' := [(6, .ref h0), (0, .ref x), (1, .int 0), (2, .int f2), (3, .int 1), (4, .int f4), (5, .int f5)]) hx hb dX6_copy_23 hl (by decide) rfl (fun ls17 hl18 => ?_)
          clear hl
          refine lv_aload_n hx hb dX6_copy_25 rfl (lv_at hl18 1 rfl) ?_
          refine zz_get X Z8 0 rfl rfl (fun w h => List.mem_cons_of_mem _ (List.mem_append_left _ (List.mem_append_right _ h))) 7 rfl (zz_m 2 rfl) rfl dX6_copy_26 ?_
          refine lv_iload_n hx hb dX6_copy_29 rfl (lv_at hl18 4 rfl) ?_
          refine zz_ald X Z8 1 0 rfl rfl (zz_in 1 4 rfl) (v := .ref h1) ashf_1 dX6_copy_30 ?_
          refine lv_astore (lv' := [(7, .ref h1), (6, .ref h0), (0, .ref x), (1, .int 0), (2, .int f2), (3, .int 1), (4, .int f4), (5, .int f5)]) hx hb dX6_copy_31 hl18 (by decide) rfl (fun ls19 hl20 => ?_)
          clear hl18
          refine lv_aload hx hb dX6_copy_33 (lv_at hl20 1 rfl) ?_
          refine zz_ci (WC := [(h0, .inr (2, [.int (-1), .int 0, .ref hv0]))]) (TC := []) (WR := [(x, .inr (6, [.ref tx0, .ref nb, .ref tb, .ref ib, .ref ah, .ref tp, .ref rd, .ref sh, .ref sl, .ref wt, .int 0, .int 0, .int 0, .int 0, .int 0])), (sh, .inl (ksh, 4, .inr (.inr (.inr (.inr shf))))), (h1, .inr (2, [.int (-1), .int 0, .ref hv1])), (h2, .inr (2, [.int (-1), .int 0, .ref hv2])), (h3, .inr (2, [.int (-1), .int 0, .ref hv3]))]) (TR := [(ksh, .object RX2)]) (k := 0) (n := 0) Z8 [2] [0, 1, 3, 4, 5] [] [0] rfl rfl (by decide +kernel) (by decide +kernel) (by decide +kernel) rfl rfl (fun Zc => va_runV (As := []) (rest := []) X (c_isMissing l D h0 0 hv0 H5.size) (cwV 0 hts gX6_copy_X2_isMissing rfl rfl rfl ⟨rfl, zh_X2_isMissing⟩ ⟨Nat.le_of_ble_eq_true rfl, Nat.le_of_ble_eq_true rfl⟩) (zz_pV (ci := 2) Zc 0 rfl rfl) rfl rfl hl20.1 rfl (lv_room (Nat.le_of_ble_eq_true rfl)) dX6_copy_35 ⟨Nat.le_of_ble_eq_true rfl, Nat.le_of_ble_eq_true rfl⟩) rfl rfl (fun r16 u14 H21 locs22 hw15 Z23 => ?_)
          clear Z8
          have hw15 : r16 = 1 := hw15.trans (by decide)
          subst r16
          have Z24 : zz_S D A s [(x, .inr (6, [.ref tx0, .ref nb, .ref tb, .ref ib, .ref ah, .ref tp, .ref rd, .ref sh, .ref sl, .ref wt, .int 0, .int 0, .int 0, .int 0, .int 0])), (sh, .inl (ksh, 4, .inr (.inr (.inr (.inr shf))))), (h1, .inr (2, [.int (-1), .int 0, .ref hv1])), (h2, .inr (2, [.int (-1), .int 0, .ref hv2])), (h3, .inr (2, [.int (-1), .int 0, .ref hv3])), (h0, .inr (2, [.int (-1), .int 0, .ref hv0]))] [(ksh, .object RX2)] H21 locs22 := Z23
          clear Z23
          refine lv_if_ne (tgt := 49) hx hb dX6_copy_38 (by decide) (fun _ => ?_) (fun h => absurd h (by decide))
          refine lv_ldc (v := (-1000000011)) hx hb hown (hts _ (zz_m 3 rfl)) dX6_copy_49 ?_
          exact zz_iret X hr hlk Z24 () (by simp [sp_copy]) [] [] (by decide +kernel) rfl rfl dX6_copy_51
        · have e10 : f3 = 2 := e10
          subst e10
          refine zz_v (v := 1) (by decide) ?_
          refine lv_if_ne (tgt := 17) hx hb dX6_copy_11 (by decide) (fun _ => ?_) (fun h => absurd h (by decide))
          refine lv_aload_n hx hb dX6_copy_17 rfl (lv_at hl 0 rfl) ?_
          refine zz_get X Z8 0 rfl rfl (fun w h => List.mem_cons_of_mem _ (List.mem_append_left _ (List.mem_append_right _ h))) 7 rfl (zz_m 2 rfl) rfl dX6_copy_18 ?_
          refine lv_iload_n hx hb dX6_copy_21 rfl (lv_at hl 1 rfl) ?_
          refine zz_ald X Z8 1 0 rfl rfl (zz_in 0 4 rfl) (v := .ref h0) ashf_0 dX6_copy_22 ?_
          refine lv_astore (lv' := [(6, .ref h0), (0, .ref x), (1, .int 0), (2, .int f2), (3, .int 2), (4, .int f4), (5, .int f5)]) hx hb dX6_copy_23 hl (by decide) rfl (fun ls25 hl26 => ?_)
          clear hl
          refine lv_aload_n hx hb dX6_copy_25 rfl (lv_at hl26 1 rfl) ?_
          refine zz_get X Z8 0 rfl rfl (fun w h => List.mem_cons_of_mem _ (List.mem_append_left _ (List.mem_append_right _ h))) 7 rfl (zz_m 2 rfl) rfl dX6_copy_26 ?_
          refine lv_iload_n hx hb dX6_copy_29 rfl (lv_at hl26 4 rfl) ?_
          refine zz_ald X Z8 1 0 rfl rfl (zz_in 2 4 rfl) (v := .ref h2) ashf_2 dX6_copy_30 ?_
          refine lv_astore (lv' := [(7, .ref h2), (6, .ref h0), (0, .ref x), (1, .int 0), (2, .int f2), (3, .int 2), (4, .int f4), (5, .int f5)]) hx hb dX6_copy_31 hl26 (by decide) rfl (fun ls27 hl28 => ?_)
          clear hl26
          refine lv_aload hx hb dX6_copy_33 (lv_at hl28 1 rfl) ?_
          refine zz_ci (WC := [(h0, .inr (2, [.int (-1), .int 0, .ref hv0]))]) (TC := []) (WR := [(x, .inr (6, [.ref tx0, .ref nb, .ref tb, .ref ib, .ref ah, .ref tp, .ref rd, .ref sh, .ref sl, .ref wt, .int 0, .int 0, .int 0, .int 0, .int 0])), (sh, .inl (ksh, 4, .inr (.inr (.inr (.inr shf))))), (h1, .inr (2, [.int (-1), .int 0, .ref hv1])), (h2, .inr (2, [.int (-1), .int 0, .ref hv2])), (h3, .inr (2, [.int (-1), .int 0, .ref hv3]))]) (TR := [(ksh, .object RX2)]) (k := 0) (n := 0) Z8 [2] [0, 1, 3, 4, 5] [] [0] rfl rfl (by decide +kernel) (by decide +kernel) (by decide +kernel) rfl rfl (fun Zc => va_runV (As := []) (rest := []) X (c_isMissing l D h0 0 hv0 H5.size) (cwV 0 hts gX6_copy_X2_isMissing rfl rfl rfl ⟨rfl, zh_X2_isMissing⟩ ⟨Nat.le_of_ble_eq_true rfl, Nat.le_of_ble_eq_true rfl⟩) (zz_pV (ci := 2) Zc 0 rfl rfl) rfl rfl hl28.1 rfl (lv_room (Nat.le_of_ble_eq_true rfl)) dX6_copy_35 ⟨Nat.le_of_ble_eq_true rfl, Nat.le_of_ble_eq_true rfl⟩) rfl rfl (fun r19 u17 H29 locs30 hw18 Z31 => ?_)
          clear Z8
          have hw18 : r19 = 1 := hw18.trans (by decide)
          subst r19
          have Z32 : zz_S D A s [(x, .inr (6, [.ref tx0, .ref nb, .ref tb, .ref ib, .ref ah, .ref tp, .ref rd, .ref sh, .ref sl, .ref wt, .int 0, .int 0, .int 0, .int 0, .int 0])), (sh, .inl (ksh, 4, .inr (.inr (.inr (.inr shf))))), (h1, .inr (2, [.int (-1), .int 0, .ref hv1])), (h2, .inr (2, [.int (-1), .int 0, .ref hv2])), (h3, .inr (2, [.int (-1), .int 0, .ref hv3])), (h0, .inr (2, [.int (-1), .int 0, .ref hv0]))] [(ksh, .object RX2)] H29 locs30 := Z31
          clear Z31
          refine lv_if_ne (tgt := 49) hx hb dX6_copy_38 (by decide) (fun _ => ?_) (fun h => absurd h (by decide))
          refine lv_ldc (v := (-1000000011)) hx hb hown (hts _ (zz_m 3 rfl)) dX6_copy_49 ?_
          exact zz_iret X hr hlk Z32 () (by simp [sp_copy]) [] [] (by decide +kernel) rfl rfl dX6_copy_51
        · have e10 : f3 = 3 := e10
          subst e10
          refine zz_v (v := 1) (by decide) ?_
          refine lv_if_ne (tgt := 17) hx hb dX6_copy_11 (by decide) (fun _ => ?_) (fun h => absurd h (by decide))
          refine lv_aload_n hx hb dX6_copy_17 rfl (lv_at hl 0 rfl) ?_
          refine zz_get X Z8 0 rfl rfl (fun w h => List.mem_cons_of_mem _ (List.mem_append_left _ (List.mem_append_right _ h))) 7 rfl (zz_m 2 rfl) rfl dX6_copy_18 ?_
          refine lv_iload_n hx hb dX6_copy_21 rfl (lv_at hl 1 rfl) ?_
          refine zz_ald X Z8 1 0 rfl rfl (zz_in 0 4 rfl) (v := .ref h0) ashf_0 dX6_copy_22 ?_
          refine lv_astore (lv' := [(6, .ref h0), (0, .ref x), (1, .int 0), (2, .int f2), (3, .int 3), (4, .int f4), (5, .int f5)]) hx hb dX6_copy_23 hl (by decide) rfl (fun ls33 hl34 => ?_)
          clear hl
          refine lv_aload_n hx hb dX6_copy_25 rfl (lv_at hl34 1 rfl) ?_
          refine zz_get X Z8 0 rfl rfl (fun w h => List.mem_cons_of_mem _ (List.mem_append_left _ (List.mem_append_right _ h))) 7 rfl (zz_m 2 rfl) rfl dX6_copy_26 ?_
          refine lv_iload_n hx hb dX6_copy_29 rfl (lv_at hl34 4 rfl) ?_
          refine zz_ald X Z8 1 0 rfl rfl (zz_in 3 4 rfl) (v := .ref h3) ashf_3 dX6_copy_30 ?_
          refine lv_astore (lv' := [(7, .ref h3), (6, .ref h0), (0, .ref x), (1, .int 0), (2, .int f2), (3, .int 3), (4, .int f4), (5, .int f5)]) hx hb dX6_copy_31 hl34 (by decide) rfl (fun ls35 hl36 => ?_)
          clear hl34
          refine lv_aload hx hb dX6_copy_33 (lv_at hl36 1 rfl) ?_
          refine zz_ci (WC := [(h0, .inr (2, [.int (-1), .int 0, .ref hv0]))]) (TC := []) (WR := [(x, .inr (6, [.ref tx0, .ref nb, .ref tb, .ref ib, .ref ah, .ref tp, .ref rd, .ref sh, .ref sl, .ref wt, .int 0, .int 0, .int 0, .int 0, .int 0])), (sh, .inl (ksh, 4, .inr (.inr (.inr (.inr shf))))), (h1, .inr (2, [.int (-1), .int 0, .ref hv1])), (h2, .inr (2, [.int (-1), .int 0, .ref hv2])), (h3, .inr (2, [.int (-1), .int 0, .ref hv3]))]) (TR := [(ksh, .object RX2)]) (k := 0) (n := 0) Z8 [2] [0, 1, 3, 4, 5] [] [0] rfl rfl (by decide +kernel) (by decide +kernel) (by decide +kernel) rfl rfl (fun Zc => va_runV (As := []) (rest := []) X (c_isMissing l D h0 0 hv0 H5.size) (cwV 0 hts gX6_copy_X2_isMissing rfl rfl rfl ⟨rfl, zh_X2_isMissing⟩ ⟨Nat.le_of_ble_eq_true rfl, Nat.le_of_ble_eq_true rfl⟩) (zz_pV (ci := 2) Zc 0 rfl rfl) rfl rfl hl36.1 rfl (lv_room (Nat.le_of_ble_eq_true rfl)) dX6_copy_35 ⟨Nat.le_of_ble_eq_true rfl, Nat.le_of_ble_eq_true rfl⟩) rfl rfl (fun r22 u20 H37 locs38 hw21 Z39 => ?_)
          clear Z8
          have hw21 : r22 = 1 := hw21.trans (by decide)
          subst r22
          have Z40 : zz_S D A s [(x, .inr (6, [.ref tx0, .ref nb, .ref tb, .ref ib, .ref ah, .ref tp, .ref rd, .ref sh, .ref sl, .ref wt, .int 0, .int 0, .int 0, .int 0, .int 0])), (sh, .inl (ksh, 4, .inr (.inr (.inr (.inr shf))))), (h1, .inr (2, [.int (-1), .int 0, .ref hv1])), (h2, .inr (2, [.int (-1), .int 0, .ref hv2])), (h3, .inr (2, [.int (-1), .int 0, .ref hv3])), (h0, .inr (2, [.int (-1), .int 0, .ref hv0]))] [(ksh, .object RX2)] H37 locs38 := Z39
          clear Z39
          refine lv_if_ne (tgt := 49) hx hb dX6_copy_38 (by decide) (fun _ => ?_) (fun h => absurd h (by decide))
          refine lv_ldc (v := (-1000000011)) hx hb hown (hts _ (zz_m 3 rfl)) dX6_copy_49 ?_
          exact zz_iret X hr hlk Z40 () (by simp [sp_copy]) [] [] (by decide +kernel) rfl rfl dX6_copy_51
      · refine zz_v (v := 0) (zz_wiF w9) ?_
        refine lv_if_ne (tgt := 17) hx hb dX6_copy_11 (by decide) (fun h => absurd (by decide) h) (fun _ => ?_)
        refine lv_ldc (v := (-1000000001)) hx hb hown (hts _ (zz_m 1 rfl)) dX6_copy_14 ?_
        exact zz_iret X hr hlk Z8 () (by simp [sp_copy, w9]) [] [] (by decide +kernel) rfl rfl dX6_copy_16
    · have e5 : f1 = 1 := e5
      subst e5
      refine zz_v (v := 1) (by decide) ?_
      refine lv_if_eq (tgt := 14) hx hb dX6_copy_4 (by decide) (fun h => absurd h (by decide)) (fun _ => ?_)
      refine lv_iload_n hx hb dX6_copy_7 rfl (lv_at hl 3 rfl) ?_
      refine zz_ci (WC := []) (TC := []) (WR := [(x, .inr (6, [.ref tx0, .ref nb, .ref tb, .ref ib, .ref ah, .ref tp, .ref rd, .ref sh, .ref sl, .ref wt, .int 0, .int 0, .int 0, .int 0, .int 0])), (sh, .inl (ksh, 4, .inr (.inr (.inr (.inr shf))))), (h0, .inr (2, [.int (-1), .int 0, .ref hv0])), (h1, .inr (2, [.int (-1), .int 0, .ref hv1])), (h2, .inr (2, [.int (-1), .int 0, .ref hv2])), (h3, .inr (2, [.int (-1), .int 0, .ref hv3]))]) (TR := [(ksh, .object RX2)]) (k := 0) (n := 0) Z4 [] [0, 1, 2, 3, 4, 5] [] [0] rfl rfl (by decide +kernel) (by decide +kernel) (by decide +kernel) rfl rfl (fun Zc => va_runS (As := [.int f3]) (rest := []) X (c_isSheet l D f3 H1.size) (va_cwS 1 hts gX6_copy_X6_isSheet rfl rfl rfl zh_X6_isSheet ⟨Nat.le_of_ble_eq_true rfl, Nat.le_of_ble_eq_true rfl⟩) (zz_pS Zc) rfl rfl hl.1 rfl (lv_room (Nat.le_of_ble_eq_true rfl)) dX6_copy_8 ⟨Nat.le_of_ble_eq_true rfl, Nat.le_of_ble_eq_true rfl⟩) rfl rfl (fun r25 u23 H41 locs42 hw24 Z43 => ?_)
      clear Z4
      subst r25
      have Z44 : zz_S D A s [(x, .inr (6, [.ref tx0, .ref nb, .ref tb, .ref ib, .ref ah, .ref tp, .ref rd, .ref sh, .ref sl, .ref wt, .int 0, .int 0, .int 0, .int 0, .int 0])), (sh, .inl (ksh, 4, .inr (.inr (.inr (.inr shf))))), (h0, .inr (2, [.int (-1), .int 0, .ref hv0])), (h1, .inr (2, [.int (-1), .int 0, .ref hv1])), (h2, .inr (2, [.int (-1), .int 0, .ref hv2])), (h3, .inr (2, [.int (-1), .int 0, .ref hv3]))] [(ksh, .object RX2)] H41 locs42 := Z43
      clear Z43
      by_cases w26 : 0 ≤ f3 ∧ f3 ≤ 3
      · obtain ⟨j, hj, e27⟩ := zz_rng 3 w26 (by decide)
        rcases (show j = 0 ∨ j = 1 ∨ j = 2 ∨ j = 3 by omega) with rfl | rfl | rfl | rfl
        · have e27 : f3 = 0 := e27
          subst e27
          refine zz_v (v := 1) (by decide) ?_
          refine lv_if_ne (tgt := 17) hx hb dX6_copy_11 (by decide) (fun _ => ?_) (fun h => absurd h (by decide))
          refine lv_aload_n hx hb dX6_copy_17 rfl (lv_at hl 0 rfl) ?_
          refine zz_get X Z44 0 rfl rfl (fun w h => List.mem_cons_of_mem _ (List.mem_append_left _ (List.mem_append_right _ h))) 7 rfl (zz_m 2 rfl) rfl dX6_copy_18 ?_
          refine lv_iload_n hx hb dX6_copy_21 rfl (lv_at hl 1 rfl) ?_
          refine zz_ald X Z44 1 0 rfl rfl (zz_in 1 4 rfl) (v := .ref h1) ashf_1 dX6_copy_22 ?_
          refine lv_astore (lv' := [(6, .ref h1), (0, .ref x), (1, .int 1), (2, .int f2), (3, .int 0), (4, .int f4), (5, .int f5)]) hx hb dX6_copy_23 hl (by decide) rfl (fun ls45 hl46 => ?_)
          clear hl
          refine lv_aload_n hx hb dX6_copy_25 rfl (lv_at hl46 1 rfl) ?_
          refine zz_get X Z44 0 rfl rfl (fun w h => List.mem_cons_of_mem _ (List.mem_append_left _ (List.mem_append_right _ h))) 7 rfl (zz_m 2 rfl) rfl dX6_copy_26 ?_
          refine lv_iload_n hx hb dX6_copy_29 rfl (lv_at hl46 4 rfl) ?_
          refine zz_ald X Z44 1 0 rfl rfl (zz_in 0 4 rfl) (v := .ref h0) ashf_0 dX6_copy_30 ?_
          refine lv_astore (lv' := [(7, .ref h0), (6, .ref h1), (0, .ref x), (1, .int 1), (2, .int f2), (3, .int 0), (4, .int f4), (5, .int f5)]) hx hb dX6_copy_31 hl46 (by decide) rfl (fun ls47 hl48 => ?_)
          clear hl46
          refine lv_aload hx hb dX6_copy_33 (lv_at hl48 1 rfl) ?_
          refine zz_ci (WC := [(h1, .inr (2, [.int (-1), .int 0, .ref hv1]))]) (TC := []) (WR := [(x, .inr (6, [.ref tx0, .ref nb, .ref tb, .ref ib, .ref ah, .ref tp, .ref rd, .ref sh, .ref sl, .ref wt, .int 0, .int 0, .int 0, .int 0, .int 0])), (sh, .inl (ksh, 4, .inr (.inr (.inr (.inr shf))))), (h0, .inr (2, [.int (-1), .int 0, .ref hv0])), (h2, .inr (2, [.int (-1), .int 0, .ref hv2])), (h3, .inr (2, [.int (-1), .int 0, .ref hv3]))]) (TR := [(ksh, .object RX2)]) (k := 0) (n := 0) Z44 [3] [0, 1, 2, 4, 5] [] [0] rfl rfl (by decide +kernel) (by decide +kernel) (by decide +kernel) rfl rfl (fun Zc => va_runV (As := []) (rest := []) X (c_isMissing l D h1 0 hv1 H41.size) (cwV 0 hts gX6_copy_X2_isMissing rfl rfl rfl ⟨rfl, zh_X2_isMissing⟩ ⟨Nat.le_of_ble_eq_true rfl, Nat.le_of_ble_eq_true rfl⟩) (zz_pV (ci := 2) Zc 0 rfl rfl) rfl rfl hl48.1 rfl (lv_room (Nat.le_of_ble_eq_true rfl)) dX6_copy_35 ⟨Nat.le_of_ble_eq_true rfl, Nat.le_of_ble_eq_true rfl⟩) rfl rfl (fun r30 u28 H49 locs50 hw29 Z51 => ?_)
          clear Z44
          have hw29 : r30 = 1 := hw29.trans (by decide)
          subst r30
          have Z52 : zz_S D A s [(x, .inr (6, [.ref tx0, .ref nb, .ref tb, .ref ib, .ref ah, .ref tp, .ref rd, .ref sh, .ref sl, .ref wt, .int 0, .int 0, .int 0, .int 0, .int 0])), (sh, .inl (ksh, 4, .inr (.inr (.inr (.inr shf))))), (h0, .inr (2, [.int (-1), .int 0, .ref hv0])), (h2, .inr (2, [.int (-1), .int 0, .ref hv2])), (h3, .inr (2, [.int (-1), .int 0, .ref hv3])), (h1, .inr (2, [.int (-1), .int 0, .ref hv1]))] [(ksh, .object RX2)] H49 locs50 := Z51
          clear Z51
          refine lv_if_ne (tgt := 49) hx hb dX6_copy_38 (by decide) (fun _ => ?_) (fun h => absurd h (by decide))
          refine lv_ldc (v := (-1000000011)) hx hb hown (hts _ (zz_m 3 rfl)) dX6_copy_49 ?_
          exact zz_iret X hr hlk Z52 () (by simp [sp_copy]) [] [] (by decide +kernel) rfl rfl dX6_copy_51
        · have e27 : f3 = 1 := e27
          subst e27
          refine zz_v (v := 1) (by decide) ?_
          refine lv_if_ne (tgt := 17) hx hb dX6_copy_11 (by decide) (fun _ => ?_) (fun h => absurd h (by decide))
          refine lv_aload_n hx hb dX6_copy_17 rfl (lv_at hl 0 rfl) ?_
          refine zz_get X Z44 0 rfl rfl (fun w h => List.mem_cons_of_mem _ (List.mem_append_left _ (List.mem_append_right _ h))) 7 rfl (zz_m 2 rfl) rfl dX6_copy_18 ?_
          refine lv_iload_n hx hb dX6_copy_21 rfl (lv_at hl 1 rfl) ?_
          refine zz_ald X Z44 1 0 rfl rfl (zz_in 1 4 rfl) (v := .ref h1) ashf_1 dX6_copy_22 ?_
          refine lv_astore (lv' := [(6, .ref h1), (0, .ref x), (1, .int 1), (2, .int f2), (3, .int 1), (4, .int f4), (5, .int f5)]) hx hb dX6_copy_23 hl (by decide) rfl (fun ls53 hl54 => ?_)
          clear hl
          refine lv_aload_n hx hb dX6_copy_25 rfl (lv_at hl54 1 rfl) ?_
          refine zz_get X Z44 0 rfl rfl (fun w h => List.mem_cons_of_mem _ (List.mem_append_left _ (List.mem_append_right _ h))) 7 rfl (zz_m 2 rfl) rfl dX6_copy_26 ?_
          refine lv_iload_n hx hb dX6_copy_29 rfl (lv_at hl54 4 rfl) ?_
          refine zz_ald X Z44 1 0 rfl rfl (zz_in 1 4 rfl) (v := .ref h1) ashf_1 dX6_copy_30 ?_
          refine lv_astore (lv' := [(7, .ref h1), (6, .ref h1), (0, .ref x), (1, .int 1), (2, .int f2), (3, .int 1), (4, .int f4), (5, .int f5)]) hx hb dX6_copy_31 hl54 (by decide) rfl (fun ls55 hl56 => ?_)
          clear hl54
          refine lv_aload hx hb dX6_copy_33 (lv_at hl56 1 rfl) ?_
          refine zz_ci (WC := [(h1, .inr (2, [.int (-1), .int 0, .ref hv1]))]) (TC := []) (WR := [(x, .inr (6, [.ref tx0, .ref nb, .ref tb, .ref ib, .ref ah, .ref tp, .ref rd, .ref sh, .ref sl, .ref wt, .int 0, .int 0, .int 0, .int 0, .int 0])), (sh, .inl (ksh, 4, .inr (.inr (.inr (.inr shf))))), (h0, .inr (2, [.int (-1), .int 0, .ref hv0])), (h2, .inr (2, [.int (-1), .int 0, .ref hv2])), (h3, .inr (2, [.int (-1), .int 0, .ref hv3]))]) (TR := [(ksh, .object RX2)]) (k := 0) (n := 0) Z44 [3] [0, 1, 2, 4, 5] [] [0] rfl rfl (by decide +kernel) (by decide +kernel) (by decide +kernel) rfl rfl (fun Zc => va_runV (As := []) (rest := []) X (c_isMissing l D h1 0 hv1 H41.size) (cwV 0 hts gX6_copy_X2_isMissing rfl rfl rfl ⟨rfl, zh_X2_isMissing⟩ ⟨Nat.le_of_ble_eq_true rfl, Nat.le_of_ble_eq_true rfl⟩) (zz_pV (ci := 2) Zc 0 rfl rfl) rfl rfl hl56.1 rfl (lv_room (Nat.le_of_ble_eq_true rfl)) dX6_copy_35 ⟨Nat.le_of_ble_eq_true rfl, Nat.le_of_ble_eq_true rfl⟩) rfl rfl (fun r33 u31 H57 locs58 hw32 Z59 => ?_)
          clear Z44
          have hw32 : r33 = 1 := hw32.trans (by decide)
          subst r33
          have Z60 : zz_S D A s [(x, .inr (6, [.ref tx0, .ref nb, .ref tb, .ref ib, .ref ah, .ref tp, .ref rd, .ref sh, .ref sl, .ref wt, .int 0, .int 0, .int 0, .int 0, .int 0])), (sh, .inl (ksh, 4, .inr (.inr (.inr (.inr shf))))), (h0, .inr (2, [.int (-1), .int 0, .ref hv0])), (h2, .inr (2, [.int (-1), .int 0, .ref hv2])), (h3, .inr (2, [.int (-1), .int 0, .ref hv3])), (h1, .inr (2, [.int (-1), .int 0, .ref hv1]))] [(ksh, .object RX2)] H57 locs58 := Z59
          clear Z59
          refine lv_if_ne (tgt := 49) hx hb dX6_copy_38 (by decide) (fun _ => ?_) (fun h => absurd h (by decide))
          refine lv_ldc (v := (-1000000011)) hx hb hown (hts _ (zz_m 3 rfl)) dX6_copy_49 ?_
          exact zz_iret X hr hlk Z60 () (by simp [sp_copy]) [] [] (by decide +kernel) rfl rfl dX6_copy_51
        · have e27 : f3 = 2 := e27
          subst e27
          refine zz_v (v := 1) (by decide) ?_
          refine lv_if_ne (tgt := 17) hx hb dX6_copy_11 (by decide) (fun _ => ?_) (fun h => absurd h (by decide))
          refine lv_aload_n hx hb dX6_copy_17 rfl (lv_at hl 0 rfl) ?_
          refine zz_get X Z44 0 rfl rfl (fun w h => List.mem_cons_of_mem _ (List.mem_append_left _ (List.mem_append_right _ h))) 7 rfl (zz_m 2 rfl) rfl dX6_copy_18 ?_
          refine lv_iload_n hx hb dX6_copy_21 rfl (lv_at hl 1 rfl) ?_
          refine zz_ald X Z44 1 0 rfl rfl (zz_in 1 4 rfl) (v := .ref h1) ashf_1 dX6_copy_22 ?_
          refine lv_astore (lv' := [(6, .ref h1), (0, .ref x), (1, .int 1), (2, .int f2), (3, .int 2), (4, .int f4), (5, .int f5)]) hx hb dX6_copy_23 hl (by decide) rfl (fun ls61 hl62 => ?_)
          clear hl
          refine lv_aload_n hx hb dX6_copy_25 rfl (lv_at hl62 1 rfl) ?_
          refine zz_get X Z44 0 rfl rfl (fun w h => List.mem_cons_of_mem _ (List.mem_append_left _ (List.mem_append_right _ h))) 7 rfl (zz_m 2 rfl) rfl dX6_copy_26 ?_
          refine lv_iload_n hx hb dX6_copy_29 rfl (lv_at hl62 4 rfl) ?_
          refine zz_ald X Z44 1 0 rfl rfl (zz_in 2 4 rfl) (v := .ref h2) ashf_2 dX6_copy_30 ?_
          refine lv_astore (lv' := [(7, .ref h2), (6, .ref h1), (0, .ref x), (1, .int 1), (2, .int f2), (3, .int 2), (4, .int f4), (5, .int f5)]) hx hb dX6_copy_31 hl62 (by decide) rfl (fun ls63 hl64 => ?_)
          clear hl62
          refine lv_aload hx hb dX6_copy_33 (lv_at hl64 1 rfl) ?_
          refine zz_ci (WC := [(h1, .inr (2, [.int (-1), .int 0, .ref hv1]))]) (TC := []) (WR := [(x, .inr (6, [.ref tx0, .ref nb, .ref tb, .ref ib, .ref ah, .ref tp, .ref rd, .ref sh, .ref sl, .ref wt, .int 0, .int 0, .int 0, .int 0, .int 0])), (sh, .inl (ksh, 4, .inr (.inr (.inr (.inr shf))))), (h0, .inr (2, [.int (-1), .int 0, .ref hv0])), (h2, .inr (2, [.int (-1), .int 0, .ref hv2])), (h3, .inr (2, [.int (-1), .int 0, .ref hv3]))]) (TR := [(ksh, .object RX2)]) (k := 0) (n := 0) Z44 [3] [0, 1, 2, 4, 5] [] [0] rfl rfl (by decide +kernel) (by decide +kernel) (by decide +kernel) rfl rfl (fun Zc => va_runV (As := []) (rest := []) X (c_isMissing l D h1 0 hv1 H41.size) (cwV 0 hts gX6_copy_X2_isMissing rfl rfl rfl ⟨rfl, zh_X2_isMissing⟩ ⟨Nat.le_of_ble_eq_true rfl, Nat.le_of_ble_eq_true rfl⟩) (zz_pV (ci := 2) Zc 0 rfl rfl) rfl rfl hl64.1 rfl (lv_room (Nat.le_of_ble_eq_true rfl)) dX6_copy_35 ⟨Nat.le_of_ble_eq_true rfl, Nat.le_of_ble_eq_true rfl⟩) rfl rfl (fun r36 u34 H65 locs66 hw35 Z67 => ?_)
          clear Z44
          have hw35 : r36 = 1 := hw35.trans (by decide)
          subst r36
          have Z68 : zz_S D A s [(x, .inr (6, [.ref tx0, .ref nb, .ref tb, .ref ib, .ref ah, .ref tp, .ref rd, .ref sh, .ref sl, .ref wt, .int 0, .int 0, .int 0, .int 0, .int 0])), (sh, .inl (ksh, 4, .inr (.inr (.inr (.inr shf))))), (h0, .inr (2, [.int (-1), .int 0, .ref hv0])), (h2, .inr (2, [.int (-1), .int 0, .ref hv2])), (h3, .inr (2, [.int (-1), .int 0, .ref hv3])), (h1, .inr (2, [.int (-1), .int 0, .ref hv1]))] [(ksh, .object RX2)] H65 locs66 := Z67
          clear Z67
          refine lv_if_ne (tgt := 49) hx hb dX6_copy_38 (by decide) (fun _ => ?_) (fun h => absurd h (by decide))
          refine lv_ldc (v := (-1000000011)) hx hb hown (hts _ (zz_m 3 rfl)) dX6_copy_49 ?_
          exact zz_iret X hr hlk Z68 () (by simp [sp_copy]) [] [] (by decide +kernel) rfl rfl dX6_copy_51
        · have e27 : f3 = 3 := e27
          subst e27
          refine zz_v (v := 1) (by decide) ?_
          refine lv_if_ne (tgt := 17) hx hb dX6_copy_11 (by decide) (fun _ => ?_) (fun h => absurd h (by decide))
          refine lv_aload_n hx hb dX6_copy_17 rfl (lv_at hl 0 rfl) ?_
          refine zz_get X Z44 0 rfl rfl (fun w h => List.mem_cons_of_mem _ (List.mem_append_left _ (List.mem_append_right _ h))) 7 rfl (zz_m 2 rfl) rfl dX6_copy_18 ?_
          refine lv_iload_n hx hb dX6_copy_21 rfl (lv_at hl 1 rfl) ?_
          refine zz_ald X Z44 1 0 rfl rfl (zz_in 1 4 rfl) (v := .ref h1) ashf_1 dX6_copy_22 ?_
          refine lv_astore (lv' := [(6, .ref h1), (0, .ref x), (1, .int 1), (2, .int f2), (3, .int 3), (4, .int f4), (5, .int f5)]) hx hb dX6_copy_23 hl (by decide) rfl (fun ls69 hl70 => ?_)
          clear hl
          refine lv_aload_n hx hb dX6_copy_25 rfl (lv_at hl70 1 rfl) ?_
          refine zz_get X Z44 0 rfl rfl (fun w h => List.mem_cons_of_mem _ (List.mem_append_left _ (List.mem_append_right _ h))) 7 rfl (zz_m 2 rfl) rfl dX6_copy_26 ?_
          refine lv_iload_n hx hb dX6_copy_29 rfl (lv_at hl70 4 rfl) ?_
          refine zz_ald X Z44 1 0 rfl rfl (zz_in 3 4 rfl) (v := .ref h3) ashf_3 dX6_copy_30 ?_
          refine lv_astore (lv' := [(7, .ref h3), (6, .ref h1), (0, .ref x), (1, .int 1), (2, .int f2), (3, .int 3), (4, .int f4), (5, .int f5)]) hx hb dX6_copy_31 hl70 (by decide) rfl (fun ls71 hl72 => ?_)
          clear hl70
          refine lv_aload hx hb dX6_copy_33 (lv_at hl72 1 rfl) ?_
          refine zz_ci (WC := [(h1, .inr (2, [.int (-1), .int 0, .ref hv1]))]) (TC := []) (WR := [(x, .inr (6, [.ref tx0, .ref nb, .ref tb, .ref ib, .ref ah, .ref tp, .ref rd, .ref sh, .ref sl, .ref wt, .int 0, .int 0, .int 0, .int 0, .int 0])), (sh, .inl (ksh, 4, .inr (.inr (.inr (.inr shf))))), (h0, .inr (2, [.int (-1), .int 0, .ref hv0])), (h2, .inr (2, [.int (-1), .int 0, .ref hv2])), (h3, .inr (2, [.int (-1), .int 0, .ref hv3]))]) (TR := [(ksh, .object RX2)]) (k := 0) (n := 0) Z44 [3] [0, 1, 2, 4, 5] [] [0] rfl rfl (by decide +kernel) (by decide +kernel) (by decide +kernel) rfl rfl (fun Zc => va_runV (As := []) (rest := []) X (c_isMissing l D h1 0 hv1 H41.size) (cwV 0 hts gX6_copy_X2_isMissing rfl rfl rfl ⟨rfl, zh_X2_isMissing⟩ ⟨Nat.le_of_ble_eq_true rfl, Nat.le_of_ble_eq_true rfl⟩) (zz_pV (ci := 2) Zc 0 rfl rfl) rfl rfl hl72.1 rfl (lv_room (Nat.le_of_ble_eq_true rfl)) dX6_copy_35 ⟨Nat.le_of_ble_eq_true rfl, Nat.le_of_ble_eq_true rfl⟩) rfl rfl (fun r39 u37 H73 locs74 hw38 Z75 => ?_)
          clear Z44
          have hw38 : r39 = 1 := hw38.trans (by decide)
          subst r39
          have Z76 : zz_S D A s [(x, .inr (6, [.ref tx0, .ref nb, .ref tb, .ref ib, .ref ah, .ref tp, .ref rd, .ref sh, .ref sl, .ref wt, .int 0, .int 0, .int 0, .int 0, .int 0])), (sh, .inl (ksh, 4, .inr (.inr (.inr (.inr shf))))), (h0, .inr (2, [.int (-1), .int 0, .ref hv0])), (h2, .inr (2, [.int (-1), .int 0, .ref hv2])), (h3, .inr (2, [.int (-1), .int 0, .ref hv3])), (h1, .inr (2, [.int (-1), .int 0, .ref hv1]))] [(ksh, .object RX2)] H73 locs74 := Z75
          clear Z75
          refine lv_if_ne (tgt := 49) hx hb dX6_copy_38 (by decide) (fun _ => ?_) (fun h => absurd h (by decide))
          refine lv_ldc (v := (-1000000011)) hx hb hown (hts _ (zz_m 3 rfl)) dX6_copy_49 ?_
          exact zz_iret X hr hlk Z76 () (by simp [sp_copy]) [] [] (by decide +kernel) rfl rfl dX6_copy_51
      · refine zz_v (v := 0) (zz_wiF w26) ?_
        refine lv_if_ne (tgt := 17) hx hb dX6_copy_11 (by decide) (fun h => absurd (by decide) h) (fun _ => ?_)
        refine lv_ldc (v := (-1000000001)) hx hb hown (hts _ (zz_m 1 rfl)) dX6_copy_14 ?_
        exact zz_iret X hr hlk Z44 () (by simp [sp_copy, w26]) [] [] (by decide +kernel) rfl rfl dX6_copy_16
    · have e5 : f1 = 2 := e5
      subst e5
      refine zz_v (v := 1) (by decide) ?_
      refine lv_if_eq (tgt := 14) hx hb dX6_copy_4 (by decide) (fun h => absurd h (by decide)) (fun _ => ?_)
      refine lv_iload_n hx hb dX6_copy_7 rfl (lv_at hl 3 rfl) ?_
      refine zz_ci (WC := []) (TC := []) (WR := [(x, .inr (6, [.ref tx0, .ref nb, .ref tb, .ref ib, .ref ah, .ref tp, .ref rd, .ref sh, .ref sl, .ref wt, .int 0, .int 0, .int 0, .int 0, .int 0])), (sh, .inl (ksh, 4, .inr (.inr (.inr (.inr shf))))), (h0, .inr (2, [.int (-1), .int 0, .ref hv0])), (h1, .inr (2, [.int (-1), .int 0, .ref hv1])), (h2, .inr (2, [.int (-1), .int 0, .ref hv2])), (h3, .inr (2, [.int (-1), .int 0, .ref hv3]))]) (TR := [(ksh, .object RX2)]) (k := 0) (n := 0) Z4 [] [0, 1, 2, 3, 4, 5] [] [0] rfl rfl (by decide +kernel) (by decide +kernel) (by decide +kernel) rfl rfl (fun Zc => va_runS (As := [.int f3]) (rest := []) X (c_isSheet l D f3 H1.size) (va_cwS 1 hts gX6_copy_X6_isSheet rfl rfl rfl zh_X6_isSheet ⟨Nat.le_of_ble_eq_true rfl, Nat.le_of_ble_eq_true rfl⟩) (zz_pS Zc) rfl rfl hl.1 rfl (lv_room (Nat.le_of_ble_eq_true rfl)) dX6_copy_8 ⟨Nat.le_of_ble_eq_true rfl, Nat.le_of_ble_eq_true rfl⟩) rfl rfl (fun r42 u40 H77 locs78 hw41 Z79 => ?_)
      clear Z4
      subst r42
      have Z80 : zz_S D A s [(x, .inr (6, [.ref tx0, .ref nb, .ref tb, .ref ib, .ref ah, .ref tp, .ref rd, .ref sh, .ref sl, .ref wt, .int 0, .int 0, .int 0, .int 0, .int 0])), (sh, .inl (ksh, 4, .inr (.inr (.inr (.inr shf))))), (h0, .inr (2, [.int (-1), .int 0, .ref hv0])), (h1, .inr (2, [.int (-1), .int 0, .ref hv1])), (h2, .inr (2, [.int (-1), .int 0, .ref hv2])), (h3, .inr (2, [.int (-1), .int 0, .ref hv3]))] [(ksh, .object RX2)] H77 locs78 := Z79
      clear Z79
      by_cases w43 : 0 ≤ f3 ∧ f3 ≤ 3
      · obtain ⟨j, hj, e44⟩ := zz_rng 3 w43 (by decide)
        rcases (show j = 0 ∨ j = 1 ∨ j = 2 ∨ j = 3 by omega) with rfl | rfl | rfl | rfl
        · have e44 : f3 = 0 := e44
          subst e44
          refine zz_v (v := 1) (by decide) ?_
          refine lv_if_ne (tgt := 17) hx hb dX6_copy_11 (by decide) (fun _ => ?_) (fun h => absurd h (by decide))
          refine lv_aload_n hx hb dX6_copy_17 rfl (lv_at hl 0 rfl) ?_
          refine zz_get X Z80 0 rfl rfl (fun w h => List.mem_cons_of_mem _ (List.mem_append_left _ (List.mem_append_right _ h))) 7 rfl (zz_m 2 rfl) rfl dX6_copy_18 ?_
          refine lv_iload_n hx hb dX6_copy_21 rfl (lv_at hl 1 rfl) ?_
          refine zz_ald X Z80 1 0 rfl rfl (zz_in 2 4 rfl) (v := .ref h2) ashf_2 dX6_copy_22 ?_
          refine lv_astore (lv' := [(6, .ref h2), (0, .ref x), (1, .int 2), (2, .int f2), (3, .int 0), (4, .int f4), (5, .int f5)]) hx hb dX6_copy_23 hl (by decide) rfl (fun ls81 hl82 => ?_)
          clear hl
          refine lv_aload_n hx hb dX6_copy_25 rfl (lv_at hl82 1 rfl) ?_
          refine zz_get X Z80 0 rfl rfl (fun w h => List.mem_cons_of_mem _ (List.mem_append_left _ (List.mem_append_right _ h))) 7 rfl (zz_m 2 rfl) rfl dX6_copy_26 ?_
          refine lv_iload_n hx hb dX6_copy_29 rfl (lv_at hl82 4 rfl) ?_
          refine zz_ald X Z80 1 0 rfl rfl (zz_in 0 4 rfl) (v := .ref h0) ashf_0 dX6_copy_30 ?_
          refine lv_astore (lv' := [(7, .ref h0), (6, .ref h2), (0, .ref x), (1, .int 2), (2, .int f2), (3, .int 0), (4, .int f4), (5, .int f5)]) hx hb dX6_copy_31 hl82 (by decide) rfl (fun ls83 hl84 => ?_)
          clear hl82
          refine lv_aload hx hb dX6_copy_33 (lv_at hl84 1 rfl) ?_
          refine zz_ci (WC := [(h2, .inr (2, [.int (-1), .int 0, .ref hv2]))]) (TC := []) (WR := [(x, .inr (6, [.ref tx0, .ref nb, .ref tb, .ref ib, .ref ah, .ref tp, .ref rd, .ref sh, .ref sl, .ref wt, .int 0, .int 0, .int 0, .int 0, .int 0])), (sh, .inl (ksh, 4, .inr (.inr (.inr (.inr shf))))), (h0, .inr (2, [.int (-1), .int 0, .ref hv0])), (h1, .inr (2, [.int (-1), .int 0, .ref hv1])), (h3, .inr (2, [.int (-1), .int 0, .ref hv3]))]) (TR := [(ksh, .object RX2)]) (k := 0) (n := 0) Z80 [4] [0, 1, 2, 3, 5] [] [0] rfl rfl (by decide +kernel) (by decide +kernel) (by decide +kernel) rfl rfl (fun Zc => va_runV (As := []) (rest := []) X (c_isMissing l D h2 0 hv2 H77.size) (cwV 0 hts gX6_copy_X2_isMissing rfl rfl rfl ⟨rfl, zh_X2_isMissing⟩ ⟨Nat.le_of_ble_eq_true rfl, Nat.le_of_ble_eq_true rfl⟩) (zz_pV (ci := 2) Zc 0 rfl rfl) rfl rfl hl84.1 rfl (lv_room (Nat.le_of_ble_eq_true rfl)) dX6_copy_35 ⟨Nat.le_of_ble_eq_true rfl, Nat.le_of_ble_eq_true rfl⟩) rfl rfl (fun r47 u45 H85 locs86 hw46 Z87 => ?_)
          clear Z80
          have hw46 : r47 = 1 := hw46.trans (by decide)
          subst r47
          have Z88 : zz_S D A s [(x, .inr (6, [.ref tx0, .ref nb, .ref tb, .ref ib, .ref ah, .ref tp, .ref rd, .ref sh, .ref sl, .ref wt, .int 0, .int 0, .int 0, .int 0, .int 0])), (sh, .inl (ksh, 4, .inr (.inr (.inr (.inr shf))))), (h0, .inr (2, [.int (-1), .int 0, .ref hv0])), (h1, .inr (2, [.int (-1), .int 0, .ref hv1])), (h3, .inr (2, [.int (-1), .int 0, .ref hv3])), (h2, .inr (2, [.int (-1), .int 0, .ref hv2]))] [(ksh, .object RX2)] H85 locs86 := Z87
          clear Z87
          refine lv_if_ne (tgt := 49) hx hb dX6_copy_38 (by decide) (fun _ => ?_) (fun h => absurd h (by decide))
          refine lv_ldc (v := (-1000000011)) hx hb hown (hts _ (zz_m 3 rfl)) dX6_copy_49 ?_
          exact zz_iret X hr hlk Z88 () (by simp [sp_copy]) [] [] (by decide +kernel) rfl rfl dX6_copy_51
        · have e44 : f3 = 1 := e44
          subst e44
          refine zz_v (v := 1) (by decide) ?_
          refine lv_if_ne (tgt := 17) hx hb dX6_copy_11 (by decide) (fun _ => ?_) (fun h => absurd h (by decide))
          refine lv_aload_n hx hb dX6_copy_17 rfl (lv_at hl 0 rfl) ?_
          refine zz_get X Z80 0 rfl rfl (fun w h => List.mem_cons_of_mem _ (List.mem_append_left _ (List.mem_append_right _ h))) 7 rfl (zz_m 2 rfl) rfl dX6_copy_18 ?_
          refine lv_iload_n hx hb dX6_copy_21 rfl (lv_at hl 1 rfl) ?_
          refine zz_ald X Z80 1 0 rfl rfl (zz_in 2 4 rfl) (v := .ref h2) ashf_2 dX6_copy_22 ?_
          refine lv_astore (lv' := [(6, .ref h2), (0, .ref x), (1, .int 2), (2, .int f2), (3, .int 1), (4, .int f4), (5, .int f5)]) hx hb dX6_copy_23 hl (by decide) rfl (fun ls89 hl90 => ?_)
          clear hl
          refine lv_aload_n hx hb dX6_copy_25 rfl (lv_at hl90 1 rfl) ?_
          refine zz_get X Z80 0 rfl rfl (fun w h => List.mem_cons_of_mem _ (List.mem_append_left _ (List.mem_append_right _ h))) 7 rfl (zz_m 2 rfl) rfl dX6_copy_26 ?_
          refine lv_iload_n hx hb dX6_copy_29 rfl (lv_at hl90 4 rfl) ?_
          refine zz_ald X Z80 1 0 rfl rfl (zz_in 1 4 rfl) (v := .ref h1) ashf_1 dX6_copy_30 ?_
          refine lv_astore (lv' := [(7, .ref h1), (6, .ref h2), (0, .ref x), (1, .int 2), (2, .int f2), (3, .int 1), (4, .int f4), (5, .int f5)]) hx hb dX6_copy_31 hl90 (by decide) rfl (fun ls91 hl92 => ?_)
          clear hl90
          refine lv_aload hx hb dX6_copy_33 (lv_at hl92 1 rfl) ?_
          refine zz_ci (WC := [(h2, .inr (2, [.int (-1), .int 0, .ref hv2]))]) (TC := []) (WR := [(x, .inr (6, [.ref tx0, .ref nb, .ref tb, .ref ib, .ref ah, .ref tp, .ref rd, .ref sh, .ref sl, .ref wt, .int 0, .int 0, .int 0, .int 0, .int 0])), (sh, .inl (ksh, 4, .inr (.inr (.inr (.inr shf))))), (h0, .inr (2, [.int (-1), .int 0, .ref hv0])), (h1, .inr (2, [.int (-1), .int 0, .ref hv1])), (h3, .inr (2, [.int (-1), .int 0, .ref hv3]))]) (TR := [(ksh, .object RX2)]) (k := 0) (n := 0) Z80 [4] [0, 1, 2, 3, 5] [] [0] rfl rfl (by decide +kernel) (by decide +kernel) (by decide +kernel) rfl rfl (fun Zc => va_runV (As := []) (rest := []) X (c_isMissing l D h2 0 hv2 H77.size) (cwV 0 hts gX6_copy_X2_isMissing rfl rfl rfl ⟨rfl, zh_X2_isMissing⟩ ⟨Nat.le_of_ble_eq_true rfl, Nat.le_of_ble_eq_true rfl⟩) (zz_pV (ci := 2) Zc 0 rfl rfl) rfl rfl hl92.1 rfl (lv_room (Nat.le_of_ble_eq_true rfl)) dX6_copy_35 ⟨Nat.le_of_ble_eq_true rfl, Nat.le_of_ble_eq_true rfl⟩) rfl rfl (fun r50 u48 H93 locs94 hw49 Z95 => ?_)
          clear Z80
          have hw49 : r50 = 1 := hw49.trans (by decide)
          subst r50
          have Z96 : zz_S D A s [(x, .inr (6, [.ref tx0, .ref nb, .ref tb, .ref ib, .ref ah, .ref tp, .ref rd, .ref sh, .ref sl, .ref wt, .int 0, .int 0, .int 0, .int 0, .int 0])), (sh, .inl (ksh, 4, .inr (.inr (.inr (.inr shf))))), (h0, .inr (2, [.int (-1), .int 0, .ref hv0])), (h1, .inr (2, [.int (-1), .int 0, .ref hv1])), (h3, .inr (2, [.int (-1), .int 0, .ref hv3])), (h2, .inr (2, [.int (-1), .int 0, .ref hv2]))] [(ksh, .object RX2)] H93 locs94 := Z95
          clear Z95
          refine lv_if_ne (tgt := 49) hx hb dX6_copy_38 (by decide) (fun _ => ?_) (fun h => absurd h (by decide))
          refine lv_ldc (v := (-1000000011)) hx hb hown (hts _ (zz_m 3 rfl)) dX6_copy_49 ?_
          exact zz_iret X hr hlk Z96 () (by simp [sp_copy]) [] [] (by decide +kernel) rfl rfl dX6_copy_51
        · have e44 : f3 = 2 := e44
          subst e44
          refine zz_v (v := 1) (by decide) ?_
          refine lv_if_ne (tgt := 17) hx hb dX6_copy_11 (by decide) (fun _ => ?_) (fun h => absurd h (by decide))
          refine lv_aload_n hx hb dX6_copy_17 rfl (lv_at hl 0 rfl) ?_
          refine zz_get X Z80 0 rfl rfl (fun w h => List.mem_cons_of_mem _ (List.mem_append_left _ (List.mem_append_right _ h))) 7 rfl (zz_m 2 rfl) rfl dX6_copy_18 ?_
          refine lv_iload_n hx hb dX6_copy_21 rfl (lv_at hl 1 rfl) ?_
          refine zz_ald X Z80 1 0 rfl rfl (zz_in 2 4 rfl) (v := .ref h2) ashf_2 dX6_copy_22 ?_
          refine lv_astore (lv' := [(6, .ref h2), (0, .ref x), (1, .int 2), (2, .int f2), (3, .int 2), (4, .int f4), (5, .int f5)]) hx hb dX6_copy_23 hl (by decide) rfl (fun ls97 hl98 => ?_)
          clear hl
          refine lv_aload_n hx hb dX6_copy_25 rfl (lv_at hl98 1 rfl) ?_
          refine zz_get X Z80 0 rfl rfl (fun w h => List.mem_cons_of_mem _ (List.mem_append_left _ (List.mem_append_right _ h))) 7 rfl (zz_m 2 rfl) rfl dX6_copy_26 ?_
          refine lv_iload_n hx hb dX6_copy_29 rfl (lv_at hl98 4 rfl) ?_
          refine zz_ald X Z80 1 0 rfl rfl (zz_in 2 4 rfl) (v := .ref h2) ashf_2 dX6_copy_30 ?_
          refine lv_astore (lv' := [(7, .ref h2), (6, .ref h2), (0, .ref x), (1, .int 2), (2, .int f2), (3, .int 2), (4, .int f4), (5, .int f5)]) hx hb dX6_copy_31 hl98 (by decide) rfl (fun ls99 hl100 => ?_)
          clear hl98
          refine lv_aload hx hb dX6_copy_33 (lv_at hl100 1 rfl) ?_
          refine zz_ci (WC := [(h2, .inr (2, [.int (-1), .int 0, .ref hv2]))]) (TC := []) (WR := [(x, .inr (6, [.ref tx0, .ref nb, .ref tb, .ref ib, .ref ah, .ref tp, .ref rd, .ref sh, .ref sl, .ref wt, .int 0, .int 0, .int 0, .int 0, .int 0])), (sh, .inl (ksh, 4, .inr (.inr (.inr (.inr shf))))), (h0, .inr (2, [.int (-1), .int 0, .ref hv0])), (h1, .inr (2, [.int (-1), .int 0, .ref hv1])), (h3, .inr (2, [.int (-1), .int 0, .ref hv3]))]) (TR := [(ksh, .object RX2)]) (k := 0) (n := 0) Z80 [4] [0, 1, 2, 3, 5] [] [0] rfl rfl (by decide +kernel) (by decide +kernel) (by decide +kernel) rfl rfl (fun Zc => va_runV (As := []) (rest := []) X (c_isMissing l D h2 0 hv2 H77.size) (cwV 0 hts gX6_copy_X2_isMissing rfl rfl rfl ⟨rfl, zh_X2_isMissing⟩ ⟨Nat.le_of_ble_eq_true rfl, Nat.le_of_ble_eq_true rfl⟩) (zz_pV (ci := 2) Zc 0 rfl rfl) rfl rfl hl100.1 rfl (lv_room (Nat.le_of_ble_eq_true rfl)) dX6_copy_35 ⟨Nat.le_of_ble_eq_true rfl, Nat.le_of_ble_eq_true rfl⟩) rfl rfl (fun r53 u51 H101 locs102 hw52 Z103 => ?_)
          clear Z80
          have hw52 : r53 = 1 := hw52.trans (by decide)
          subst r53
          have Z104 : zz_S D A s [(x, .inr (6, [.ref tx0, .ref nb, .ref tb, .ref ib, .ref ah, .ref tp, .ref rd, .ref sh, .ref sl, .ref wt, .int 0, .int 0, .int 0, .int 0, .int 0])), (sh, .inl (ksh, 4, .inr (.inr (.inr (.inr shf))))), (h0, .inr (2, [.int (-1), .int 0, .ref hv0])), (h1, .inr (2, [.int (-1), .int 0, .ref hv1])), (h3, .inr (2, [.int (-1), .int 0, .ref hv3])), (h2, .inr (2, [.int (-1), .int 0, .ref hv2]))] [(ksh, .object RX2)] H101 locs102 := Z103
          clear Z103
          refine lv_if_ne (tgt := 49) hx hb dX6_copy_38 (by decide) (fun _ => ?_) (fun h => absurd h (by decide))
          refine lv_ldc (v := (-1000000011)) hx hb hown (hts _ (zz_m 3 rfl)) dX6_copy_49 ?_
          exact zz_iret X hr hlk Z104 () (by simp [sp_copy]) [] [] (by decide +kernel) rfl rfl dX6_copy_51
        · have e44 : f3 = 3 := e44
          subst e44
          refine zz_v (v := 1) (by decide) ?_
          refine lv_if_ne (tgt := 17) hx hb dX6_copy_11 (by decide) (fun _ => ?_) (fun h => absurd h (by decide))
          refine lv_aload_n hx hb dX6_copy_17 rfl (lv_at hl 0 rfl) ?_
          refine zz_get X Z80 0 rfl rfl (fun w h => List.mem_cons_of_mem _ (List.mem_append_left _ (List.mem_append_right _ h))) 7 rfl (zz_m 2 rfl) rfl dX6_copy_18 ?_
          refine lv_iload_n hx hb dX6_copy_21 rfl (lv_at hl 1 rfl) ?_
          refine zz_ald X Z80 1 0 rfl rfl (zz_in 2 4 rfl) (v := .ref h2) ashf_2 dX6_copy_22 ?_
          refine lv_astore (lv' := [(6, .ref h2), (0, .ref x), (1, .int 2), (2, .int f2), (3, .int 3), (4, .int f4), (5, .int f5)]) hx hb dX6_copy_23 hl (by decide) rfl (fun ls105 hl106 => ?_)
          clear hl
          refine lv_aload_n hx hb dX6_copy_25 rfl (lv_at hl106 1 rfl) ?_
          refine zz_get X Z80 0 rfl rfl (fun w h => List.mem_cons_of_mem _ (List.mem_append_left _ (List.mem_append_right _ h))) 7 rfl (zz_m 2 rfl) rfl dX6_copy_26 ?_
          refine lv_iload_n hx hb dX6_copy_29 rfl (lv_at hl106 4 rfl) ?_
          refine zz_ald X Z80 1 0 rfl rfl (zz_in 3 4 rfl) (v := .ref h3) ashf_3 dX6_copy_30 ?_
          refine lv_astore (lv' := [(7, .ref h3), (6, .ref h2), (0, .ref x), (1, .int 2), (2, .int f2), (3, .int 3), (4, .int f4), (5, .int f5)]) hx hb dX6_copy_31 hl106 (by decide) rfl (fun ls107 hl108 => ?_)
          clear hl106
          refine lv_aload hx hb dX6_copy_33 (lv_at hl108 1 rfl) ?_
          refine zz_ci (WC := [(h2, .inr (2, [.int (-1), .int 0, .ref hv2]))]) (TC := []) (WR := [(x, .inr (6, [.ref tx0, .ref nb, .ref tb, .ref ib, .ref ah, .ref tp, .ref rd, .ref sh, .ref sl, .ref wt, .int 0, .int 0, .int 0, .int 0, .int 0])), (sh, .inl (ksh, 4, .inr (.inr (.inr (.inr shf))))), (h0, .inr (2, [.int (-1), .int 0, .ref hv0])), (h1, .inr (2, [.int (-1), .int 0, .ref hv1])), (h3, .inr (2, [.int (-1), .int 0, .ref hv3]))]) (TR := [(ksh, .object RX2)]) (k := 0) (n := 0) Z80 [4] [0, 1, 2, 3, 5] [] [0] rfl rfl (by decide +kernel) (by decide +kernel) (by decide +kernel) rfl rfl (fun Zc => va_runV (As := []) (rest := []) X (c_isMissing l D h2 0 hv2 H77.size) (cwV 0 hts gX6_copy_X2_isMissing rfl rfl rfl ⟨rfl, zh_X2_isMissing⟩ ⟨Nat.le_of_ble_eq_true rfl, Nat.le_of_ble_eq_true rfl⟩) (zz_pV (ci := 2) Zc 0 rfl rfl) rfl rfl hl108.1 rfl (lv_room (Nat.le_of_ble_eq_true rfl)) dX6_copy_35 ⟨Nat.le_of_ble_eq_true rfl, Nat.le_of_ble_eq_true rfl⟩) rfl rfl (fun r56 u54 H109 locs110 hw55 Z111 => ?_)
          clear Z80
          have hw55 : r56 = 1 := hw55.trans (by decide)
          subst r56
          have Z112 : zz_S D A s [(x, .inr (6, [.ref tx0, .ref nb, .ref tb, .ref ib, .ref ah, .ref tp, .ref rd, .ref sh, .ref sl, .ref wt, .int 0, .int 0, .int 0, .int 0, .int 0])), (sh, .inl (ksh, 4, .inr (.inr (.inr (.inr shf))))), (h0, .inr (2, [.int (-1), .int 0, .ref hv0])), (h1, .inr (2, [.int (-1), .int 0, .ref hv1])), (h3, .inr (2, [.int (-1), .int 0, .ref hv3])), (h2, .inr (2, [.int (-1), .int 0, .ref hv2]))] [(ksh, .object RX2)] H109 locs110 := Z111
          clear Z111
          refine lv_if_ne (tgt := 49) hx hb dX6_copy_38 (by decide) (fun _ => ?_) (fun h => absurd h (by decide))
          refine lv_ldc (v := (-1000000011)) hx hb hown (hts _ (zz_m 3 rfl)) dX6_copy_49 ?_
          exact zz_iret X hr hlk Z112 () (by simp [sp_copy]) [] [] (by decide +kernel) rfl rfl dX6_copy_51
      · refine zz_v (v := 0) (zz_wiF w43) ?_
        refine lv_if_ne (tgt := 17) hx hb dX6_copy_11 (by decide) (fun h => absurd (by decide) h) (fun _ => ?_)
        refine lv_ldc (v := (-1000000001)) hx hb hown (hts _ (zz_m 1 rfl)) dX6_copy_14 ?_
        exact zz_iret X hr hlk Z80 () (by simp [sp_copy, w43]) [] [] (by decide +kernel) rfl rfl dX6_copy_16
    · have e5 : f1 = 3 := e5
      subst e5
      refine zz_v (v := 1) (by decide) ?_
      refine lv_if_eq (tgt := 14) hx hb dX6_copy_4 (by decide) (fun h => absurd h (by decide)) (fun _ => ?_)
      refine lv_iload_n hx hb dX6_copy_7 rfl (lv_at hl 3 rfl) ?_
      refine zz_ci (WC := []) (TC := []) (WR := [(x, .inr (6, [.ref tx0, .ref nb, .ref tb, .ref ib, .ref ah, .ref tp, .ref rd, .ref sh, .ref sl, .ref wt, .int 0, .int 0, .int 0, .int 0, .int 0])), (sh, .inl (ksh, 4, .inr (.inr (.inr (.inr shf))))), (h0, .inr (2, [.int (-1), .int 0, .ref hv0])), (h1, .inr (2, [.int (-1), .int 0, .ref hv1])), (h2, .inr (2, [.int (-1), .int 0, .ref hv2])), (h3, .inr (2, [.int (-1), .int 0, .ref hv3]))]) (TR := [(ksh, .object RX2)]) (k := 0) (n := 0) Z4 [] [0, 1, 2, 3, 4, 5] [] [0] rfl rfl (by decide +kernel) (by decide +kernel) (by decide +kernel) rfl rfl (fun Zc => va_runS (As := [.int f3]) (rest := []) X (c_isSheet l D f3 H1.size) (va_cwS 1 hts gX6_copy_X6_isSheet rfl rfl rfl zh_X6_isSheet ⟨Nat.le_of_ble_eq_true rfl, Nat.le_of_ble_eq_true rfl⟩) (zz_pS Zc) rfl rfl hl.1 rfl (lv_room (Nat.le_of_ble_eq_true rfl)) dX6_copy_8 ⟨Nat.le_of_ble_eq_true rfl, Nat.le_of_ble_eq_true rfl⟩) rfl rfl (fun r59 u57 H113 locs114 hw58 Z115 => ?_)
      clear Z4
      subst r59
      have Z116 : zz_S D A s [(x, .inr (6, [.ref tx0, .ref nb, .ref tb, .ref ib, .ref ah, .ref tp, .ref rd, .ref sh, .ref sl, .ref wt, .int 0, .int 0, .int 0, .int 0, .int 0])), (sh, .inl (ksh, 4, .inr (.inr (.inr (.inr shf))))), (h0, .inr (2, [.int (-1), .int 0, .ref hv0])), (h1, .inr (2, [.int (-1), .int 0, .ref hv1])), (h2, .inr (2, [.int (-1), .int 0, .ref hv2])), (h3, .inr (2, [.int (-1), .int 0, .ref hv3]))] [(ksh, .object RX2)] H113 locs114 := Z115
      clear Z115
      by_cases w60 : 0 ≤ f3 ∧ f3 ≤ 3
      · obtain ⟨j, hj, e61⟩ := zz_rng 3 w60 (by decide)
        rcases (show j = 0 ∨ j = 1 ∨ j = 2 ∨ j = 3 by omega) with rfl | rfl | rfl | rfl
        · have e61 : f3 = 0 := e61
          subst e61
          refine zz_v (v := 1) (by decide) ?_
          refine lv_if_ne (tgt := 17) hx hb dX6_copy_11 (by decide) (fun _ => ?_) (fun h => absurd h (by decide))
          refine lv_aload_n hx hb dX6_copy_17 rfl (lv_at hl 0 rfl) ?_
          refine zz_get X Z116 0 rfl rfl (fun w h => List.mem_cons_of_mem _ (List.mem_append_left _ (List.mem_append_right _ h))) 7 rfl (zz_m 2 rfl) rfl dX6_copy_18 ?_
          refine lv_iload_n hx hb dX6_copy_21 rfl (lv_at hl 1 rfl) ?_
          refine zz_ald X Z116 1 0 rfl rfl (zz_in 3 4 rfl) (v := .ref h3) ashf_3 dX6_copy_22 ?_
          refine lv_astore (lv' := [(6, .ref h3), (0, .ref x), (1, .int 3), (2, .int f2), (3, .int 0), (4, .int f4), (5, .int f5)]) hx hb dX6_copy_23 hl (by decide) rfl (fun ls117 hl118 => ?_)
          clear hl
          refine lv_aload_n hx hb dX6_copy_25 rfl (lv_at hl118 1 rfl) ?_
          refine zz_get X Z116 0 rfl rfl (fun w h => List.mem_cons_of_mem _ (List.mem_append_left _ (List.mem_append_right _ h))) 7 rfl (zz_m 2 rfl) rfl dX6_copy_26 ?_
          refine lv_iload_n hx hb dX6_copy_29 rfl (lv_at hl118 4 rfl) ?_
          refine zz_ald X Z116 1 0 rfl rfl (zz_in 0 4 rfl) (v := .ref h0) ashf_0 dX6_copy_30 ?_
          refine lv_astore (lv' := [(7, .ref h0), (6, .ref h3), (0, .ref x), (1, .int 3), (2, .int f2), (3, .int 0), (4, .int f4), (5, .int f5)]) hx hb dX6_copy_31 hl118 (by decide) rfl (fun ls119 hl120 => ?_)
          clear hl118
          refine lv_aload hx hb dX6_copy_33 (lv_at hl120 1 rfl) ?_
          refine zz_ci (WC := [(h3, .inr (2, [.int (-1), .int 0, .ref hv3]))]) (TC := []) (WR := [(x, .inr (6, [.ref tx0, .ref nb, .ref tb, .ref ib, .ref ah, .ref tp, .ref rd, .ref sh, .ref sl, .ref wt, .int 0, .int 0, .int 0, .int 0, .int 0])), (sh, .inl (ksh, 4, .inr (.inr (.inr (.inr shf))))), (h0, .inr (2, [.int (-1), .int 0, .ref hv0])), (h1, .inr (2, [.int (-1), .int 0, .ref hv1])), (h2, .inr (2, [.int (-1), .int 0, .ref hv2]))]) (TR := [(ksh, .object RX2)]) (k := 0) (n := 0) Z116 [5] [0, 1, 2, 3, 4] [] [0] rfl rfl (by decide +kernel) (by decide +kernel) (by decide +kernel) rfl rfl (fun Zc => va_runV (As := []) (rest := []) X (c_isMissing l D h3 0 hv3 H113.size) (cwV 0 hts gX6_copy_X2_isMissing rfl rfl rfl ⟨rfl, zh_X2_isMissing⟩ ⟨Nat.le_of_ble_eq_true rfl, Nat.le_of_ble_eq_true rfl⟩) (zz_pV (ci := 2) Zc 0 rfl rfl) rfl rfl hl120.1 rfl (lv_room (Nat.le_of_ble_eq_true rfl)) dX6_copy_35 ⟨Nat.le_of_ble_eq_true rfl, Nat.le_of_ble_eq_true rfl⟩) rfl rfl (fun r64 u62 H121 locs122 hw63 Z123 => ?_)
          clear Z116
          have hw63 : r64 = 1 := hw63.trans (by decide)
          subst r64
          have Z124 : zz_S D A s [(x, .inr (6, [.ref tx0, .ref nb, .ref tb, .ref ib, .ref ah, .ref tp, .ref rd, .ref sh, .ref sl, .ref wt, .int 0, .int 0, .int 0, .int 0, .int 0])), (sh, .inl (ksh, 4, .inr (.inr (.inr (.inr shf))))), (h0, .inr (2, [.int (-1), .int 0, .ref hv0])), (h1, .inr (2, [.int (-1), .int 0, .ref hv1])), (h2, .inr (2, [.int (-1), .int 0, .ref hv2])), (h3, .inr (2, [.int (-1), .int 0, .ref hv3]))] [(ksh, .object RX2)] H121 locs122 := Z123
          clear Z123
          refine lv_if_ne (tgt := 49) hx hb dX6_copy_38 (by decide) (fun _ => ?_) (fun h => absurd h (by decide))
          refine lv_ldc (v := (-1000000011)) hx hb hown (hts _ (zz_m 3 rfl)) dX6_copy_49 ?_
          exact zz_iret X hr hlk Z124 () (by simp [sp_copy]) [] [] (by decide +kernel) rfl rfl dX6_copy_51
        · have e61 : f3 = 1 := e61
          subst e61
          refine zz_v (v := 1) (by decide) ?_
          refine lv_if_ne (tgt := 17) hx hb dX6_copy_11 (by decide) (fun _ => ?_) (fun h => absurd h (by decide))
          refine lv_aload_n hx hb dX6_copy_17 rfl (lv_at hl 0 rfl) ?_
          refine zz_get X Z116 0 rfl rfl (fun w h => List.mem_cons_of_mem _ (List.mem_append_left _ (List.mem_append_right _ h))) 7 rfl (zz_m 2 rfl) rfl dX6_copy_18 ?_
          refine lv_iload_n hx hb dX6_copy_21 rfl (lv_at hl 1 rfl) ?_
          refine zz_ald X Z116 1 0 rfl rfl (zz_in 3 4 rfl) (v := .ref h3) ashf_3 dX6_copy_22 ?_
          refine lv_astore (lv' := [(6, .ref h3), (0, .ref x), (1, .int 3), (2, .int f2), (3, .int 1), (4, .int f4), (5, .int f5)]) hx hb dX6_copy_23 hl (by decide) rfl (fun ls125 hl126 => ?_)
          clear hl
          refine lv_aload_n hx hb dX6_copy_25 rfl (lv_at hl126 1 rfl) ?_
          refine zz_get X Z116 0 rfl rfl (fun w h => List.mem_cons_of_mem _ (List.mem_append_left _ (List.mem_append_right _ h))) 7 rfl (zz_m 2 rfl) rfl dX6_copy_26 ?_
          refine lv_iload_n hx hb dX6_copy_29 rfl (lv_at hl126 4 rfl) ?_
          refine zz_ald X Z116 1 0 rfl rfl (zz_in 1 4 rfl) (v := .ref h1) ashf_1 dX6_copy_30 ?_
          refine lv_astore (lv' := [(7, .ref h1), (6, .ref h3), (0, .ref x), (1, .int 3), (2, .int f2), (3, .int 1), (4, .int f4), (5, .int f5)]) hx hb dX6_copy_31 hl126 (by decide) rfl (fun ls127 hl128 => ?_)
          clear hl126
          refine lv_aload hx hb dX6_copy_33 (lv_at hl128 1 rfl) ?_
          refine zz_ci (WC := [(h3, .inr (2, [.int (-1), .int 0, .ref hv3]))]) (TC := []) (WR := [(x, .inr (6, [.ref tx0, .ref nb, .ref tb, .ref ib, .ref ah, .ref tp, .ref rd, .ref sh, .ref sl, .ref wt, .int 0, .int 0, .int 0, .int 0, .int 0])), (sh, .inl (ksh, 4, .inr (.inr (.inr (.inr shf))))), (h0, .inr (2, [.int (-1), .int 0, .ref hv0])), (h1, .inr (2, [.int (-1), .int 0, .ref hv1])), (h2, .inr (2, [.int (-1), .int 0, .ref hv2]))]) (TR := [(ksh, .object RX2)]) (k := 0) (n := 0) Z116 [5] [0, 1, 2, 3, 4] [] [0] rfl rfl (by decide +kernel) (by decide +kernel) (by decide +kernel) rfl rfl (fun Zc => va_runV (As := []) (rest := []) X (c_isMissing l D h3 0 hv3 H113.size) (cwV 0 hts gX6_copy_X2_isMissing rfl rfl rfl ⟨rfl, zh_X2_isMissing⟩ ⟨Nat.le_of_ble_eq_true rfl, Nat.le_of_ble_eq_true rfl⟩) (zz_pV (ci := 2) Zc 0 rfl rfl) rfl rfl hl128.1 rfl (lv_room (Nat.le_of_ble_eq_true rfl)) dX6_copy_35 ⟨Nat.le_of_ble_eq_true rfl, Nat.le_of_ble_eq_true rfl⟩) rfl rfl (fun r67 u65 H129 locs130 hw66 Z131 => ?_)
          clear Z116
          have hw66 : r67 = 1 := hw66.trans (by decide)
          subst r67
          have Z132 : zz_S D A s [(x, .inr (6, [.ref tx0, .ref nb, .ref tb, .ref ib, .ref ah, .ref tp, .ref rd, .ref sh, .ref sl, .ref wt, .int 0, .int 0, .int 0, .int 0, .int 0])), (sh, .inl (ksh, 4, .inr (.inr (.inr (.inr shf))))), (h0, .inr (2, [.int (-1), .int 0, .ref hv0])), (h1, .inr (2, [.int (-1), .int 0, .ref hv1])), (h2, .inr (2, [.int (-1), .int 0, .ref hv2])), (h3, .inr (2, [.int (-1), .int 0, .ref hv3]))] [(ksh, .object RX2)] H129 locs130 := Z131
          clear Z131
          refine lv_if_ne (tgt := 49) hx hb dX6_copy_38 (by decide) (fun _ => ?_) (fun h => absurd h (by decide))
          refine lv_ldc (v := (-1000000011)) hx hb hown (hts _ (zz_m 3 rfl)) dX6_copy_49 ?_
          exact zz_iret X hr hlk Z132 () (by simp [sp_copy]) [] [] (by decide +kernel) rfl rfl dX6_copy_51
        · have e61 : f3 = 2 := e61
          subst e61
          refine zz_v (v := 1) (by decide) ?_
          refine lv_if_ne (tgt := 17) hx hb dX6_copy_11 (by decide) (fun _ => ?_) (fun h => absurd h (by decide))
          refine lv_aload_n hx hb dX6_copy_17 rfl (lv_at hl 0 rfl) ?_
          refine zz_get X Z116 0 rfl rfl (fun w h => List.mem_cons_of_mem _ (List.mem_append_left _ (List.mem_append_right _ h))) 7 rfl (zz_m 2 rfl) rfl dX6_copy_18 ?_
          refine lv_iload_n hx hb dX6_copy_21 rfl (lv_at hl 1 rfl) ?_
          refine zz_ald X Z116 1 0 rfl rfl (zz_in 3 4 rfl) (v := .ref h3) ashf_3 dX6_copy_22 ?_
          refine lv_astore (lv' := [(6, .ref h3), (0, .ref x), (1, .int 3), (2, .int f2), (3, .int 2), (4, .int f4), (5, .int f5)]) hx hb dX6_copy_23 hl (by decide) rfl (fun ls133 hl134 => ?_)
          clear hl
          refine lv_aload_n hx hb dX6_copy_25 rfl (lv_at hl134 1 rfl) ?_
          refine zz_get X Z116 0 rfl rfl (fun w h => List.mem_cons_of_mem _ (List.mem_append_left _ (List.mem_append_right _ h))) 7 rfl (zz_m 2 rfl) rfl dX6_copy_26 ?_
          refine lv_iload_n hx hb dX6_copy_29 rfl (lv_at hl134 4 rfl) ?_
          refine zz_ald X Z116 1 0 rfl rfl (zz_in 2 4 rfl) (v := .ref h2) ashf_2 dX6_copy_30 ?_
          refine lv_astore (lv' := [(7, .ref h2), (6, .ref h3), (0, .ref x), (1, .int 3), (2, .int f2), (3, .int 2), (4, .int f4), (5, .int f5)]) hx hb dX6_copy_31 hl134 (by decide) rfl (fun ls135 hl136 => ?_)
          clear hl134
          refine lv_aload hx hb dX6_copy_33 (lv_at hl136 1 rfl) ?_
          refine zz_ci (WC := [(h3, .inr (2, [.int (-1), .int 0, .ref hv3]))]) (TC := []) (WR := [(x, .inr (6, [.ref tx0, .ref nb, .ref tb, .ref ib, .ref ah, .ref tp, .ref rd, .ref sh, .ref sl, .ref wt, .int 0, .int 0, .int 0, .int 0, .int 0])), (sh, .inl (ksh, 4, .inr (.inr (.inr (.inr shf))))), (h0, .inr (2, [.int (-1), .int 0, .ref hv0])), (h1, .inr (2, [.int (-1), .int 0, .ref hv1])), (h2, .inr (2, [.int (-1), .int 0, .ref hv2]))]) (TR := [(ksh, .object RX2)]) (k := 0) (n := 0) Z116 [5] [0, 1, 2, 3, 4] [] [0] rfl rfl (by decide +kernel) (by decide +kernel) (by decide +kernel) rfl rfl (fun Zc => va_runV (As := []) (rest := []) X (c_isMissing l D h3 0 hv3 H113.size) (cwV 0 hts gX6_copy_X2_isMissing rfl rfl rfl ⟨rfl, zh_X2_isMissing⟩ ⟨Nat.le_of_ble_eq_true rfl, Nat.le_of_ble_eq_true rfl⟩) (zz_pV (ci := 2) Zc 0 rfl rfl) rfl rfl hl136.1 rfl (lv_room (Nat.le_of_ble_eq_true rfl)) dX6_copy_35 ⟨Nat.le_of_ble_eq_true rfl, Nat.le_of_ble_eq_true rfl⟩) rfl rfl (fun r70 u68 H137 locs138 hw69 Z139 => ?_)
          clear Z116
          have hw69 : r70 = 1 := hw69.trans (by decide)
          subst r70
          have Z140 : zz_S D A s [(x, .inr (6, [.ref tx0, .ref nb, .ref tb, .ref ib, .ref ah, .ref tp, .ref rd, .ref sh, .ref sl, .ref wt, .int 0, .int 0, .int 0, .int 0, .int 0])), (sh, .inl (ksh, 4, .inr (.inr (.inr (.inr shf))))), (h0, .inr (2, [.int (-1), .int 0, .ref hv0])), (h1, .inr (2, [.int (-1), .int 0, .ref hv1])), (h2, .inr (2, [.int (-1), .int 0, .ref hv2])), (h3, .inr (2, [.int (-1), .int 0, .ref hv3]))] [(ksh, .object RX2)] H137 locs138 := Z139
          clear Z139
          refine lv_if_ne (tgt := 49) hx hb dX6_copy_38 (by decide) (fun _ => ?_) (fun h => absurd h (by decide))
          refine lv_ldc (v := (-1000000011)) hx hb hown (hts _ (zz_m 3 rfl)) dX6_copy_49 ?_
          exact zz_iret X hr hlk Z140 () (by simp [sp_copy]) [] [] (by decide +kernel) rfl rfl dX6_copy_51
        · have e61 : f3 = 3 := e61
          subst e61
          refine zz_v (v := 1) (by decide) ?_
          refine lv_if_ne (tgt := 17) hx hb dX6_copy_11 (by decide) (fun _ => ?_) (fun h => absurd h (by decide))
          refine lv_aload_n hx hb dX6_copy_17 rfl (lv_at hl 0 rfl) ?_
          refine zz_get X Z116 0 rfl rfl (fun w h => List.mem_cons_of_mem _ (List.mem_append_left _ (List.mem_append_right _ h))) 7 rfl (zz_m 2 rfl) rfl dX6_copy_18 ?_
          refine lv_iload_n hx hb dX6_copy_21 rfl (lv_at hl 1 rfl) ?_
          refine zz_ald X Z116 1 0 rfl rfl (zz_in 3 4 rfl) (v := .ref h3) ashf_3 dX6_copy_22 ?_
          refine lv_astore (lv' := [(6, .ref h3), (0, .ref x), (1, .int 3), (2, .int f2), (3, .int 3), (4, .int f4), (5, .int f5)]) hx hb dX6_copy_23 hl (by decide) rfl (fun ls141 hl142 => ?_)
          clear hl
          refine lv_aload_n hx hb dX6_copy_25 rfl (lv_at hl142 1 rfl) ?_
          refine zz_get X Z116 0 rfl rfl (fun w h => List.mem_cons_of_mem _ (List.mem_append_left _ (List.mem_append_right _ h))) 7 rfl (zz_m 2 rfl) rfl dX6_copy_26 ?_
          refine lv_iload_n hx hb dX6_copy_29 rfl (lv_at hl142 4 rfl) ?_
          refine zz_ald X Z116 1 0 rfl rfl (zz_in 3 4 rfl) (v := .ref h3) ashf_3 dX6_copy_30 ?_
          refine lv_astore (lv' := [(7, .ref h3), (6, .ref h3), (0, .ref x), (1, .int 3), (2, .int f2), (3, .int 3), (4, .int f4), (5, .int f5)]) hx hb dX6_copy_31 hl142 (by decide) rfl (fun ls143 hl144 => ?_)
          clear hl142
          refine lv_aload hx hb dX6_copy_33 (lv_at hl144 1 rfl) ?_
          refine zz_ci (WC := [(h3, .inr (2, [.int (-1), .int 0, .ref hv3]))]) (TC := []) (WR := [(x, .inr (6, [.ref tx0, .ref nb, .ref tb, .ref ib, .ref ah, .ref tp, .ref rd, .ref sh, .ref sl, .ref wt, .int 0, .int 0, .int 0, .int 0, .int 0])), (sh, .inl (ksh, 4, .inr (.inr (.inr (.inr shf))))), (h0, .inr (2, [.int (-1), .int 0, .ref hv0])), (h1, .inr (2, [.int (-1), .int 0, .ref hv1])), (h2, .inr (2, [.int (-1), .int 0, .ref hv2]))]) (TR := [(ksh, .object RX2)]) (k := 0) (n := 0) Z116 [5] [0, 1, 2, 3, 4] [] [0] rfl rfl (by decide +kernel) (by decide +kernel) (by decide +kernel) rfl rfl (fun Zc => va_runV (As := []) (rest := []) X (c_isMissing l D h3 0 hv3 H113.size) (cwV 0 hts gX6_copy_X2_isMissing rfl rfl rfl ⟨rfl, zh_X2_isMissing⟩ ⟨Nat.le_of_ble_eq_true rfl, Nat.le_of_ble_eq_true rfl⟩) (zz_pV (ci := 2) Zc 0 rfl rfl) rfl rfl hl144.1 rfl (lv_room (Nat.le_of_ble_eq_true rfl)) dX6_copy_35 ⟨Nat.le_of_ble_eq_true rfl, Nat.le_of_ble_eq_true rfl⟩) rfl rfl (fun r73 u71 H145 locs146 hw72 Z147 => ?_)
          clear Z116
          have hw72 : r73 = 1 := hw72.trans (by decide)
          subst r73
          have Z148 : zz_S D A s [(x, .inr (6, [.ref tx0, .ref nb, .ref tb, .ref ib, .ref ah, .ref tp, .ref rd, .ref sh, .ref sl, .ref wt, .int 0, .int 0, .int 0, .int 0, .int 0])), (sh, .inl (ksh, 4, .inr (.inr (.inr (.inr shf))))), (h0, .inr (2, [.int (-1), .int 0, .ref hv0])), (h1, .inr (2, [.int (-1), .int 0, .ref hv1])), (h2, .inr (2, [.int (-1), .int 0, .ref hv2])), (h3, .inr (2, [.int (-1), .int 0, .ref hv3]))] [(ksh, .object RX2)] H145 locs146 := Z147
          clear Z147
          refine lv_if_ne (tgt := 49) hx hb dX6_copy_38 (by decide) (fun _ => ?_) (fun h => absurd h (by decide))
          refine lv_ldc (v := (-1000000011)) hx hb hown (hts _ (zz_m 3 rfl)) dX6_copy_49 ?_
          exact zz_iret X hr hlk Z148 () (by simp [sp_copy]) [] [] (by decide +kernel) rfl rfl dX6_copy_51
      · refine zz_v (v := 0) (zz_wiF w60) ?_
        refine lv_if_ne (tgt := 17) hx hb dX6_copy_11 (by decide) (fun h => absurd (by decide) h) (fun _ => ?_)
        refine lv_ldc (v := (-1000000001)) hx hb hown (hts _ (zz_m 1 rfl)) dX6_copy_14 ?_
        exact zz_iret X hr hlk Z116 () (by simp [sp_copy, w60]) [] [] (by decide +kernel) rfl rfl dX6_copy_16
  · refine zz_v (v := 0) (zz_wiF w4) ?_
    refine lv_if_eq (tgt := 14) hx hb dX6_copy_4 (by decide) (fun _ => ?_) (fun h => absurd (by decide) h)
    refine lv_ldc (v := (-1000000001)) hx hb hown (hts _ (zz_m 1 rfl)) dX6_copy_14 ?_
    exact zz_iret X hr hlk Z4 () (by simp [sp_copy, w4]) [] [] (by decide +kernel) rfl rfl dX6_copy_16

set_option maxHeartbeats 4000000 in
set_option maxRecDepth 100000 in
theorem c_refuses (l : Launch) (D : va_G) (b : Nat) (nu : Int32) (sa : Nat) (sb : Nat) (w_ : Int32)  : zz_MI l yX3_refuses wsX3_refuses 0 0 0 0 D [.ref b, .int w_] [(b, .inr (3, [.int 0, .int nu, .ref sa, .ref sb]))] [] (fun (r : Int32) (u : Unit) => r = (-1000000011)) (fun (u : Unit) => [(b, .inr (3, [.int 0, .int nu, .ref sa, .ref sb]))]) (fun (u : Unit) => []) := by
  intro sz
  refine Met.ofW (cc := cX3_refuses) (maxL := 2) (ret := (some .int)) (by decide) rfl ?_
  intro p e s m args below meth c s₁ B hml hv
  obtain ⟨rfl, hC⟩ := hv
  have hx := B.exec
  have hb := B.bytes
  have hr := B.returns
  have hts := atoms_spec (ws := wsX3_refuses) B.pre
  have hown : s.vm.findClass RX3 = some m.cls := findClass_of_methodNamed B.named
  have hlk := B.notSynchronized
  have X : CallFix p m c cX3_refuses 2 s _ wsX3_refuses RX3 := ⟨hx, hb, hml, hown, hts⟩
  have Z := zz_enter hC
  generalize va_A [(b, .inr (3, [.int 0, .int nu, .ref sa, .ref sb]))] sz = A at Z ⊢
  have hl := lv_entry ([.ref b, .int w_]) (n := 2) (Nat.le_of_ble_eq_true rfl)
  rw [lg_entry_eq]
  generalize (lg_sl ([.ref b, .int w_]) ++ List.replicate (2 - (lg_sl ([.ref b, .int w_])).length) Slot.unset).toArray = ls at hl ⊢
  have hl : lv_has ls 2 [(0, .ref b), (1, .int w_)] := hl
  refine lv_aload_n hx hb dX3_refuses_0 rfl (lv_at hl 0 rfl) ?_
  refine zz_get X Z 0 rfl rfl (fun w h => List.mem_cons_of_mem _ (List.mem_append_right _ h)) 0 rfl (zz_m 1 rfl) rfl dX3_refuses_1 ?_
  refine lv_if_ne (tgt := 10) hx hb dX3_refuses_4 (by decide) (fun h => absurd (by decide) h) (fun _ => ?_)
  refine lv_ldc (v := (-1000000011)) hx hb hown (hts _ (zz_m 2 rfl)) dX3_refuses_7 ?_
  exact zz_iret X hr hlk Z () rfl [0] [] (by decide +kernel) rfl rfl dX3_refuses_9

set_option maxHeartbeats 4000000 in
set_option maxRecDepth 100000 in
theorem c6_ask (l : Launch) (D : va_G) (x : Nat) (tx0 : Nat) (nb : Nat) (tb : Nat) (ib : Nat) (ah : Nat) (tp : Nat) (rd : Nat) (sh : Nat) (sl : Nat) (wt : Nat) (ksl : ClassId) (slf : (Nat → Option Nat)) (o0 : Nat) (o1 : Nat) (o2 : Nat) (o3 : Nat) (o4 : Nat) (oa0 : Nat) (oa1 : Nat) (oa2 : Nat) (oa3 : Nat) (oa4 : Nat) (ob0 : Nat) (ob1 : Nat) (ob2 : Nat) (ob3 : Nat) (ob4 : Nat) (slot : Int32) (kind : Int32) (aslf_0 : va_rf (slf 0) = .ref o0) (aslf_1 : va_rf (slf 1) = .ref o1) (aslf_2 : va_rf (slf 2) = .ref o2) (aslf_3 : va_rf (slf 3) = .ref o3) (aslf_4 : va_rf (slf 4) = .ref o4) : zz_MI l yX6_ask wsX6_ask 2 42 0 0 D [.ref x, .int slot, .int kind] [(x, .inr (6, [.ref tx0, .ref nb, .ref tb, .ref ib, .ref ah, .ref tp, .ref rd, .ref sh, .ref sl, .ref wt, .int 0, .int 0, .int 0, .int 0, .int 0])), (sl, .inl (ksl, 5, .inr (.inr (.inr (.inr slf))))), (o0, .inr (3, [.int 0, .int 0, .ref oa0, .ref ob0])), (o1, .inr (3, [.int 0, .int 0, .ref oa1, .ref ob1])), (o2, .inr (3, [.int 0, .int 0, .ref oa2, .ref ob2])), (o3, .inr (3, [.int 0, .int 0, .ref oa3, .ref ob3])), (o4, .inr (3, [.int 0, .int 0, .ref oa4, .ref ob4]))] [(ksl, .object RX3)] (fun (r : Int32) (u : Unit) => r = sp_ask slot kind) (fun (u : Unit) => []) (fun (u : Unit) => []) := by
  intro sz
  refine Met.ofW (cc := cX6_ask) (maxL := 5) (ret := (some .int)) (by decide) rfl ?_
  intro p e s m args below meth c s₁ B hml hv
  obtain ⟨rfl, hC⟩ := hv
  have hx := B.exec
  have hb := B.bytes
  have hr := B.returns
  have hts := atoms_spec (ws := wsX6_ask) B.pre
  have hown : s.vm.findClass RX6 = some m.cls := findClass_of_methodNamed B.named
  have hlk := B.notSynchronized
  have X : CallFix p m c cX6_ask 5 s _ wsX6_ask RX6 := ⟨hx, hb, hml, hown, hts⟩
  have Z := zz_enter hC
  generalize va_A [(x, .inr (6, [.ref tx0, .ref nb, .ref tb, .ref ib, .ref ah, .ref tp, .ref rd, .ref sh, .ref sl, .ref wt, .int 0, .int 0, .int 0, .int 0, .int 0])), (sl, .inl (ksl, 5, .inr (.inr (.inr (.inr slf))))), (o0, .inr (3, [.int 0, .int 0, .ref oa0, .ref ob0])), (o1, .inr (3, [.int 0, .int 0, .ref oa1, .ref ob1])), (o2, .inr (3, [.int 0, .int 0, .ref oa2, .ref ob2])), (o3, .inr (3, [.int 0, .int 0, .ref oa3, .ref ob3])), (o4, .inr (3, [.int 0, .int 0, .ref oa4, .ref ob4]))] sz = A at Z ⊢
  have hl := lv_entry ([.ref x, .int slot, .int kind]) (n := 5) (Nat.le_of_ble_eq_true rfl)
  rw [lg_entry_eq]
  generalize (lg_sl ([.ref x, .int slot, .int kind]) ++ List.replicate (5 - (lg_sl ([.ref x, .int slot, .int kind])).length) Slot.unset).toArray = ls at hl ⊢
  have hl : lv_has ls 5 [(0, .ref x), (1, .int slot), (2, .int kind)] := hl
  refine lv_iload_n hx hb dX6_ask_0 rfl (lv_at hl 1 rfl) ?_
  refine zz_ci (WC := []) (TC := []) (WR := [(x, .inr (6, [.ref tx0, .ref nb, .ref tb, .ref ib, .ref ah, .ref tp, .ref rd, .ref sh, .ref sl, .ref wt, .int 0, .int 0, .int 0, .int 0, .int 0])), (sl, .inl (ksl, 5, .inr (.inr (.inr (.inr slf))))), (o0, .inr (3, [.int 0, .int 0, .ref oa0, .ref ob0])), (o1, .inr (3, [.int 0, .int 0, .ref oa1, .ref ob1])), (o2, .inr (3, [.int 0, .int 0, .ref oa2, .ref ob2])), (o3, .inr (3, [.int 0, .int 0, .ref oa3, .ref ob3])), (o4, .inr (3, [.int 0, .int 0, .ref oa4, .ref ob4]))]) (TR := [(ksl, .object RX3)]) (k := 0) (n := 0) Z [] [0, 1, 2, 3, 4, 5, 6] [] [0] rfl rfl (by decide +kernel) (by decide +kernel) (by decide +kernel) rfl rfl (fun Zc => va_runS (As := [.int slot]) (rest := []) X (c_isSlot l D slot s.heap.size) (va_cwS 1 hts gX6_ask_X6_isSlot rfl rfl rfl zh_X6_isSlot ⟨Nat.le_of_ble_eq_true rfl, Nat.le_of_ble_eq_true rfl⟩) (zz_pS Zc) rfl rfl hl.1 rfl (lv_room (Nat.le_of_ble_eq_true rfl)) dX6_ask_1 ⟨Nat.le_of_ble_eq_true rfl, Nat.le_of_ble_eq_true rfl⟩) rfl rfl (fun r3 u1 H1 locs2 hw2 Z3 => ?_)
  clear Z
  subst r3
  have Z4 : zz_S D A s [(x, .inr (6, [.ref tx0, .ref nb, .ref tb, .ref ib, .ref ah, .ref tp, .ref rd, .ref sh, .ref sl, .ref wt, .int 0, .int 0, .int 0, .int 0, .int 0])), (sl, .inl (ksl, 5, .inr (.inr (.inr (.inr slf))))), (o0, .inr (3, [.int 0, .int 0, .ref oa0, .ref ob0])), (o1, .inr (3, [.int 0, .int 0, .ref oa1, .ref ob1])), (o2, .inr (3, [.int 0, .int 0, .ref oa2, .ref ob2])), (o3, .inr (3, [.int 0, .int 0, .ref oa3, .ref ob3])), (o4, .inr (3, [.int 0, .int 0, .ref oa4, .ref ob4]))] [(ksl, .object RX3)] H1 locs2 := Z3
  clear Z3
  by_cases w4 : 0 ≤ slot ∧ slot ≤ 4
  · obtain ⟨j, hj, e5⟩ := zz_rng 4 w4 (by decide)
    rcases (show j = 0 ∨ j = 1 ∨ j = 2 ∨ j = 3 ∨ j = 4 by omega) with rfl | rfl | rfl | rfl | rfl
    · have e5 : slot = 0 := e5
      subst e5
      refine zz_v (v := 1) (by decide) ?_
      refine lv_if_eq (tgt := 16) hx hb dX6_ask_4 (by decide) (fun h => absurd h (by decide)) (fun _ => ?_)
      refine lv_iload_n hx hb dX6_ask_7 rfl (lv_at hl 2 rfl) ?_
      refine lv_iconst (v := 0) hx hb dX6_ask_8 (by decide) ?_
      refine lv_iconst (v := 5) hx hb dX6_ask_9 (by decide) ?_
      refine zz_ci (WC := []) (TC := []) (WR := [(x, .inr (6, [.ref tx0, .ref nb, .ref tb, .ref ib, .ref ah, .ref tp, .ref rd, .ref sh, .ref sl, .ref wt, .int 0, .int 0, .int 0, .int 0, .int 0])), (sl, .inl (ksl, 5, .inr (.inr (.inr (.inr slf))))), (o0, .inr (3, [.int 0, .int 0, .ref oa0, .ref ob0])), (o1, .inr (3, [.int 0, .int 0, .ref oa1, .ref ob1])), (o2, .inr (3, [.int 0, .int 0, .ref oa2, .ref ob2])), (o3, .inr (3, [.int 0, .int 0, .ref oa3, .ref ob3])), (o4, .inr (3, [.int 0, .int 0, .ref oa4, .ref ob4]))]) (TR := [(ksl, .object RX3)]) (k := 0) (n := 0) Z4 [] [0, 1, 2, 3, 4, 5, 6] [] [0] rfl rfl (by decide +kernel) (by decide +kernel) (by decide +kernel) rfl rfl (fun Zc => va_runS (As := [.int kind, .int 0, .int 5]) (rest := []) X (c_within l D kind 0 5 H1.size) (va_cwS 3 hts gX6_ask_X6_within rfl rfl rfl zh_X6_within ⟨Nat.le_of_ble_eq_true rfl, Nat.le_of_ble_eq_true rfl⟩) (zz_pS Zc) rfl rfl hl.1 rfl (lv_room (Nat.le_of_ble_eq_true rfl)) dX6_ask_10 ⟨Nat.le_of_ble_eq_true rfl, Nat.le_of_ble_eq_true rfl⟩) rfl rfl (fun r8 u6 H5 locs6 hw7 Z7 => ?_)
      clear Z4
      subst r8
      have Z8 : zz_S D A s [(x, .inr (6, [.ref tx0, .ref nb, .ref tb, .ref ib, .ref ah, .ref tp, .ref rd, .ref sh, .ref sl, .ref wt, .int 0, .int 0, .int 0, .int 0, .int 0])), (sl, .inl (ksl, 5, .inr (.inr (.inr (.inr slf))))), (o0, .inr (3, [.int 0, .int 0, .ref oa0, .ref ob0])), (o1, .inr (3, [.int 0, .int 0, .ref oa1, .ref ob1])), (o2, .inr (3, [.int 0, .int 0, .ref oa2, .ref ob2])), (o3, .inr (3, [.int 0, .int 0, .ref oa3, .ref ob3])), (o4, .inr (3, [.int 0, .int 0, .ref oa4, .ref ob4]))] [(ksl, .object RX3)] H5 locs6 := Z7
      clear Z7
      by_cases w9 : 0 ≤ kind ∧ kind ≤ 5
      · refine zz_v (v := 1) (zz_wiT w9) ?_
        refine lv_if_ne (tgt := 19) hx hb dX6_ask_13 (by decide) (fun _ => ?_) (fun h => absurd h (by decide))
        refine lv_aload_n hx hb dX6_ask_19 rfl (lv_at hl 0 rfl) ?_
        refine zz_get X Z8 0 rfl rfl (fun w h => List.mem_cons_of_mem _ (List.mem_append_left _ (List.mem_append_left _ (List.mem_append_right _ h)))) 8 rfl (zz_m 2 rfl) rfl dX6_ask_20 ?_
        refine lv_iload_n hx hb dX6_ask_23 rfl (lv_at hl 1 rfl) ?_
        refine zz_ald X Z8 1 0 rfl rfl (zz_in 0 5 rfl) (v := .ref o0) aslf_0 dX6_ask_24 ?_
        refine lv_iconst (v := 1) hx hb dX6_ask_25 (by decide) ?_
        refine zz_ci (WC := [(o0, .inr (3, [.int 0, .int 0, .ref oa0, .ref ob0]))]) (TC := []) (WR := [(x, .inr (6, [.ref tx0, .ref nb, .ref tb, .ref ib, .ref ah, .ref tp, .ref rd, .ref sh, .ref sl, .ref wt, .int 0, .int 0, .int 0, .int 0, .int 0])), (sl, .inl (ksl, 5, .inr (.inr (.inr (.inr slf))))), (o1, .inr (3, [.int 0, .int 0, .ref oa1, .ref ob1])), (o2, .inr (3, [.int 0, .int 0, .ref oa2, .ref ob2])), (o3, .inr (3, [.int 0, .int 0, .ref oa3, .ref ob3])), (o4, .inr (3, [.int 0, .int 0, .ref oa4, .ref ob4]))]) (TR := [(ksl, .object RX3)]) (k := 0) (n := 0) Z8 [2] [0, 1, 3, 4, 5, 6] [] [0] rfl rfl (by decide +kernel) (by decide +kernel) (by decide +kernel) rfl rfl (fun Zc => va_runV (As := [.int 1]) (rest := []) X (c_refuses l D o0 0 oa0 ob0 1 H5.size) (cwV 1 hts gX6_ask_X3_refuses rfl rfl rfl ⟨rfl, zh_X3_refuses⟩ ⟨Nat.le_of_ble_eq_true rfl, Nat.le_of_ble_eq_true rfl⟩) (zz_pV (ci := 3) Zc 0 rfl rfl) rfl rfl hl.1 rfl (lv_room (Nat.le_of_ble_eq_true rfl)) dX6_ask_26 ⟨Nat.le_of_ble_eq_true rfl, Nat.le_of_ble_eq_true rfl⟩) rfl rfl (fun r12 u10 H9 locs10 hw11 Z11 => ?_)
        clear Z8
        have hw11 : r12 = (-1000000011) := hw11.trans (by decide)
        subst r12
        have Z12 : zz_S D A s [(x, .inr (6, [.ref tx0, .ref nb, .ref tb, .ref ib, .ref ah, .ref tp, .ref rd, .ref sh, .ref sl, .ref wt, .int 0, .int 0, .int 0, .int 0, .int 0])), (sl, .inl (ksl, 5, .inr (.inr (.inr (.inr slf))))), (o1, .inr (3, [.int 0, .int 0, .ref oa1, .ref ob1])), (o2, .inr (3, [.int 0, .int 0, .ref oa2, .ref ob2])), (o3, .inr (3, [.int 0, .int 0, .ref oa3, .ref ob3])), (o4, .inr (3, [.int 0, .int 0, .ref oa4, .ref ob4])), (o0, .inr (3, [.int 0, .int 0, .ref oa0, .ref ob0]))] [(ksl, .object RX3)] H9 locs10 := Z11
        clear Z11
        refine lv_istore_n (lv' := [(3, .int (-1000000011)), (0, .ref x), (1, .int 0), (2, .int kind)]) hx hb dX6_ask_29 rfl hl (by decide) rfl (fun ls13 hl14 => ?_)
        clear hl
        refine lv_iload_n hx hb dX6_ask_30 rfl (lv_at hl14 0 rfl) ?_
        refine lv_if_eq (tgt := 36) hx hb dX6_ask_31 (by decide) (fun h => absurd h (by decide)) (fun _ => ?_)
        refine lv_iload_n hx hb dX6_ask_34 rfl (lv_at hl14 0 rfl) ?_
        exact zz_iret X hr hlk Z12 () (by simp [sp_ask, w9]) [] [] (by decide +kernel) rfl rfl dX6_ask_35
      · refine zz_v (v := 0) (zz_wiF w9) ?_
        refine lv_if_ne (tgt := 19) hx hb dX6_ask_13 (by decide) (fun h => absurd (by decide) h) (fun _ => ?_)
        refine lv_ldc (v := (-1000000001)) hx hb hown (hts _ (zz_m 1 rfl)) dX6_ask_16 ?_
        exact zz_iret X hr hlk Z8 () (by simp [sp_ask, w9]) [] [] (by decide +kernel) rfl rfl dX6_ask_18
    · have e5 : slot = 1 := e5
      subst e5
      refine zz_v (v := 1) (by decide) ?_
      refine lv_if_eq (tgt := 16) hx hb dX6_ask_4 (by decide) (fun h => absurd h (by decide)) (fun _ => ?_)
      refine lv_iload_n hx hb dX6_ask_7 rfl (lv_at hl 2 rfl) ?_
      refine lv_iconst (v := 0) hx hb dX6_ask_8 (by decide) ?_
      refine lv_iconst (v := 5) hx hb dX6_ask_9 (by decide) ?_
      refine zz_ci (WC := []) (TC := []) (WR := [(x, .inr (6, [.ref tx0, .ref nb, .ref tb, .ref ib, .ref ah, .ref tp, .ref rd, .ref sh, .ref sl, .ref wt, .int 0, .int 0, .int 0, .int 0, .int 0])), (sl, .inl (ksl, 5, .inr (.inr (.inr (.inr slf))))), (o0, .inr (3, [.int 0, .int 0, .ref oa0, .ref ob0])), (o1, .inr (3, [.int 0, .int 0, .ref oa1, .ref ob1])), (o2, .inr (3, [.int 0, .int 0, .ref oa2, .ref ob2])), (o3, .inr (3, [.int 0, .int 0, .ref oa3, .ref ob3])), (o4, .inr (3, [.int 0, .int 0, .ref oa4, .ref ob4]))]) (TR := [(ksl, .object RX3)]) (k := 0) (n := 0) Z4 [] [0, 1, 2, 3, 4, 5, 6] [] [0] rfl rfl (by decide +kernel) (by decide +kernel) (by decide +kernel) rfl rfl (fun Zc => va_runS (As := [.int kind, .int 0, .int 5]) (rest := []) X (c_within l D kind 0 5 H1.size) (va_cwS 3 hts gX6_ask_X6_within rfl rfl rfl zh_X6_within ⟨Nat.le_of_ble_eq_true rfl, Nat.le_of_ble_eq_true rfl⟩) (zz_pS Zc) rfl rfl hl.1 rfl (lv_room (Nat.le_of_ble_eq_true rfl)) dX6_ask_10 ⟨Nat.le_of_ble_eq_true rfl, Nat.le_of_ble_eq_true rfl⟩) rfl rfl (fun r15 u13 H15 locs16 hw14 Z17 => ?_)
      clear Z4
      subst r15
      have Z18 : zz_S D A s [(x, .inr (6, [.ref tx0, .ref nb, .ref tb, .ref ib, .ref ah, .ref tp, .ref rd, .ref sh, .ref sl, .ref wt, .int 0, .int 0, .int 0, .int 0, .int 0])), (sl, .inl (ksl, 5, .inr (.inr (.inr (.inr slf))))), (o0, .inr (3, [.int 0, .int 0, .ref oa0, .ref ob0])), (o1, .inr (3, [.int 0, .int 0, .ref oa1, .ref ob1])), (o2, .inr (3, [.int 0, .int 0, .ref oa2, .ref ob2])), (o3, .inr (3, [.int 0, .int 0, .ref oa3, .ref ob3])), (o4, .inr (3, [.int 0, .int 0, .ref oa4, .ref ob4]))] [(ksl, .object RX3)] H15 locs16 := Z17
      clear Z17
      by_cases w16 : 0 ≤ kind ∧ kind ≤ 5
      · refine zz_v (v := 1) (zz_wiT w16) ?_
        refine lv_if_ne (tgt := 19) hx hb dX6_ask_13 (by decide) (fun _ => ?_) (fun h => absurd h (by decide))
        refine lv_aload_n hx hb dX6_ask_19 rfl (lv_at hl 0 rfl) ?_
        refine zz_get X Z18 0 rfl rfl (fun w h => List.mem_cons_of_mem _ (List.mem_append_left _ (List.mem_append_left _ (List.mem_append_right _ h)))) 8 rfl (zz_m 2 rfl) rfl dX6_ask_20 ?_
        refine lv_iload_n hx hb dX6_ask_23 rfl (lv_at hl 1 rfl) ?_
        refine zz_ald X Z18 1 0 rfl rfl (zz_in 1 5 rfl) (v := .ref o1) aslf_1 dX6_ask_24 ?_
        refine lv_iconst (v := 1) hx hb dX6_ask_25 (by decide) ?_
        refine zz_ci (WC := [(o1, .inr (3, [.int 0, .int 0, .ref oa1, .ref ob1]))]) (TC := []) (WR := [(x, .inr (6, [.ref tx0, .ref nb, .ref tb, .ref ib, .ref ah, .ref tp, .ref rd, .ref sh, .ref sl, .ref wt, .int 0, .int 0, .int 0, .int 0, .int 0])), (sl, .inl (ksl, 5, .inr (.inr (.inr (.inr slf))))), (o0, .inr (3, [.int 0, .int 0, .ref oa0, .ref ob0])), (o2, .inr (3, [.int 0, .int 0, .ref oa2, .ref ob2])), (o3, .inr (3, [.int 0, .int 0, .ref oa3, .ref ob3])), (o4, .inr (3, [.int 0, .int 0, .ref oa4, .ref ob4]))]) (TR := [(ksl, .object RX3)]) (k := 0) (n := 0) Z18 [3] [0, 1, 2, 4, 5, 6] [] [0] rfl rfl (by decide +kernel) (by decide +kernel) (by decide +kernel) rfl rfl (fun Zc => va_runV (As := [.int 1]) (rest := []) X (c_refuses l D o1 0 oa1 ob1 1 H15.size) (cwV 1 hts gX6_ask_X3_refuses rfl rfl rfl ⟨rfl, zh_X3_refuses⟩ ⟨Nat.le_of_ble_eq_true rfl, Nat.le_of_ble_eq_true rfl⟩) (zz_pV (ci := 3) Zc 0 rfl rfl) rfl rfl hl.1 rfl (lv_room (Nat.le_of_ble_eq_true rfl)) dX6_ask_26 ⟨Nat.le_of_ble_eq_true rfl, Nat.le_of_ble_eq_true rfl⟩) rfl rfl (fun r19 u17 H19 locs20 hw18 Z21 => ?_)
        clear Z18
        have hw18 : r19 = (-1000000011) := hw18.trans (by decide)
        subst r19
        have Z22 : zz_S D A s [(x, .inr (6, [.ref tx0, .ref nb, .ref tb, .ref ib, .ref ah, .ref tp, .ref rd, .ref sh, .ref sl, .ref wt, .int 0, .int 0, .int 0, .int 0, .int 0])), (sl, .inl (ksl, 5, .inr (.inr (.inr (.inr slf))))), (o0, .inr (3, [.int 0, .int 0, .ref oa0, .ref ob0])), (o2, .inr (3, [.int 0, .int 0, .ref oa2, .ref ob2])), (o3, .inr (3, [.int 0, .int 0, .ref oa3, .ref ob3])), (o4, .inr (3, [.int 0, .int 0, .ref oa4, .ref ob4])), (o1, .inr (3, [.int 0, .int 0, .ref oa1, .ref ob1]))] [(ksl, .object RX3)] H19 locs20 := Z21
        clear Z21
        refine lv_istore_n (lv' := [(3, .int (-1000000011)), (0, .ref x), (1, .int 1), (2, .int kind)]) hx hb dX6_ask_29 rfl hl (by decide) rfl (fun ls23 hl24 => ?_)
        clear hl
        refine lv_iload_n hx hb dX6_ask_30 rfl (lv_at hl24 0 rfl) ?_
        refine lv_if_eq (tgt := 36) hx hb dX6_ask_31 (by decide) (fun h => absurd h (by decide)) (fun _ => ?_)
        refine lv_iload_n hx hb dX6_ask_34 rfl (lv_at hl24 0 rfl) ?_
        exact zz_iret X hr hlk Z22 () (by simp [sp_ask, w16]) [] [] (by decide +kernel) rfl rfl dX6_ask_35
      · refine zz_v (v := 0) (zz_wiF w16) ?_
        refine lv_if_ne (tgt := 19) hx hb dX6_ask_13 (by decide) (fun h => absurd (by decide) h) (fun _ => ?_)
        refine lv_ldc (v := (-1000000001)) hx hb hown (hts _ (zz_m 1 rfl)) dX6_ask_16 ?_
        exact zz_iret X hr hlk Z18 () (by simp [sp_ask, w16]) [] [] (by decide +kernel) rfl rfl dX6_ask_18
    · have e5 : slot = 2 := e5
      subst e5
      refine zz_v (v := 1) (by decide) ?_
      refine lv_if_eq (tgt := 16) hx hb dX6_ask_4 (by decide) (fun h => absurd h (by decide)) (fun _ => ?_)
      refine lv_iload_n hx hb dX6_ask_7 rfl (lv_at hl 2 rfl) ?_
      refine lv_iconst (v := 0) hx hb dX6_ask_8 (by decide) ?_
      refine lv_iconst (v := 5) hx hb dX6_ask_9 (by decide) ?_
      refine zz_ci (WC := []) (TC := []) (WR := [(x, .inr (6, [.ref tx0, .ref nb, .ref tb, .ref ib, .ref ah, .ref tp, .ref rd, .ref sh, .ref sl, .ref wt, .int 0, .int 0, .int 0, .int 0, .int 0])), (sl, .inl (ksl, 5, .inr (.inr (.inr (.inr slf))))), (o0, .inr (3, [.int 0, .int 0, .ref oa0, .ref ob0])), (o1, .inr (3, [.int 0, .int 0, .ref oa1, .ref ob1])), (o2, .inr (3, [.int 0, .int 0, .ref oa2, .ref ob2])), (o3, .inr (3, [.int 0, .int 0, .ref oa3, .ref ob3])), (o4, .inr (3, [.int 0, .int 0, .ref oa4, .ref ob4]))]) (TR := [(ksl, .object RX3)]) (k := 0) (n := 0) Z4 [] [0, 1, 2, 3, 4, 5, 6] [] [0] rfl rfl (by decide +kernel) (by decide +kernel) (by decide +kernel) rfl rfl (fun Zc => va_runS (As := [.int kind, .int 0, .int 5]) (rest := []) X (c_within l D kind 0 5 H1.size) (va_cwS 3 hts gX6_ask_X6_within rfl rfl rfl zh_X6_within ⟨Nat.le_of_ble_eq_true rfl, Nat.le_of_ble_eq_true rfl⟩) (zz_pS Zc) rfl rfl hl.1 rfl (lv_room (Nat.le_of_ble_eq_true rfl)) dX6_ask_10 ⟨Nat.le_of_ble_eq_true rfl, Nat.le_of_ble_eq_true rfl⟩) rfl rfl (fun r22 u20 H25 locs26 hw21 Z27 => ?_)
      clear Z4
      subst r22
      have Z28 : zz_S D A s [(x, .inr (6, [.ref tx0, .ref nb, .ref tb, .ref ib, .ref ah, .ref tp, .ref rd, .ref sh, .ref sl, .ref wt, .int 0, .int 0, .int 0, .int 0, .int 0])), (sl, .inl (ksl, 5, .inr (.inr (.inr (.inr slf))))), (o0, .inr (3, [.int 0, .int 0, .ref oa0, .ref ob0])), (o1, .inr (3, [.int 0, .int 0, .ref oa1, .ref ob1])), (o2, .inr (3, [.int 0, .int 0, .ref oa2, .ref ob2])), (o3, .inr (3, [.int 0, .int 0, .ref oa3, .ref ob3])), (o4, .inr (3, [.int 0, .int 0, .ref oa4, .ref ob4]))] [(ksl, .object RX3)] H25 locs26 := Z27
      clear Z27
      by_cases w23 : 0 ≤ kind ∧ kind ≤ 5
      · refine zz_v (v := 1) (zz_wiT w23) ?_
        refine lv_if_ne (tgt := 19) hx hb dX6_ask_13 (by decide) (fun _ => ?_) (fun h => absurd h (by decide))
        refine lv_aload_n hx hb dX6_ask_19 rfl (lv_at hl 0 rfl) ?_
        refine zz_get X Z28 0 rfl rfl (fun w h => List.mem_cons_of_mem _ (List.mem_append_left _ (List.mem_append_left _ (List.mem_append_right _ h)))) 8 rfl (zz_m 2 rfl) rfl dX6_ask_20 ?_
        refine lv_iload_n hx hb dX6_ask_23 rfl (lv_at hl 1 rfl) ?_
        refine zz_ald X Z28 1 0 rfl rfl (zz_in 2 5 rfl) (v := .ref o2) aslf_2 dX6_ask_24 ?_
        refine lv_iconst (v := 1) hx hb dX6_ask_25 (by decide) ?_
        refine zz_ci (WC := [(o2, .inr (3, [.int 0, .int 0, .ref oa2, .ref ob2]))]) (TC := []) (WR := [(x, .inr (6, [.ref tx0, .ref nb, .ref tb, .ref ib, .ref ah, .ref tp, .ref rd, .ref sh, .ref sl, .ref wt, .int 0, .int 0, .int 0, .int 0, .int 0])), (sl, .inl (ksl, 5, .inr (.inr (.inr (.inr slf))))), (o0, .inr (3, [.int 0, .int 0, .ref oa0, .ref ob0])), (o1, .inr (3, [.int 0, .int 0, .ref oa1, .ref ob1])), (o3, .inr (3, [.int 0, .int 0, .ref oa3, .ref ob3])), (o4, .inr (3, [.int 0, .int 0, .ref oa4, .ref ob4]))]) (TR := [(ksl, .object RX3)]) (k := 0) (n := 0) Z28 [4] [0, 1, 2, 3, 5, 6] [] [0] rfl rfl (by decide +kernel) (by decide +kernel) (by decide +kernel) rfl rfl (fun Zc => va_runV (As := [.int 1]) (rest := []) X (c_refuses l D o2 0 oa2 ob2 1 H25.size) (cwV 1 hts gX6_ask_X3_refuses rfl rfl rfl ⟨rfl, zh_X3_refuses⟩ ⟨Nat.le_of_ble_eq_true rfl, Nat.le_of_ble_eq_true rfl⟩) (zz_pV (ci := 3) Zc 0 rfl rfl) rfl rfl hl.1 rfl (lv_room (Nat.le_of_ble_eq_true rfl)) dX6_ask_26 ⟨Nat.le_of_ble_eq_true rfl, Nat.le_of_ble_eq_true rfl⟩) rfl rfl (fun r26 u24 H29 locs30 hw25 Z31 => ?_)
        clear Z28
        have hw25 : r26 = (-1000000011) := hw25.trans (by decide)
        subst r26
        have Z32 : zz_S D A s [(x, .inr (6, [.ref tx0, .ref nb, .ref tb, .ref ib, .ref ah, .ref tp, .ref rd, .ref sh, .ref sl, .ref wt, .int 0, .int 0, .int 0, .int 0, .int 0])), (sl, .inl (ksl, 5, .inr (.inr (.inr (.inr slf))))), (o0, .inr (3, [.int 0, .int 0, .ref oa0, .ref ob0])), (o1, .inr (3, [.int 0, .int 0, .ref oa1, .ref ob1])), (o3, .inr (3, [.int 0, .int 0, .ref oa3, .ref ob3])), (o4, .inr (3, [.int 0, .int 0, .ref oa4, .ref ob4])), (o2, .inr (3, [.int 0, .int 0, .ref oa2, .ref ob2]))] [(ksl, .object RX3)] H29 locs30 := Z31
        clear Z31
        refine lv_istore_n (lv' := [(3, .int (-1000000011)), (0, .ref x), (1, .int 2), (2, .int kind)]) hx hb dX6_ask_29 rfl hl (by decide) rfl (fun ls33 hl34 => ?_)
        clear hl
        refine lv_iload_n hx hb dX6_ask_30 rfl (lv_at hl34 0 rfl) ?_
        refine lv_if_eq (tgt := 36) hx hb dX6_ask_31 (by decide) (fun h => absurd h (by decide)) (fun _ => ?_)
        refine lv_iload_n hx hb dX6_ask_34 rfl (lv_at hl34 0 rfl) ?_
        exact zz_iret X hr hlk Z32 () (by simp [sp_ask, w23]) [] [] (by decide +kernel) rfl rfl dX6_ask_35
      · refine zz_v (v := 0) (zz_wiF w23) ?_
        refine lv_if_ne (tgt := 19) hx hb dX6_ask_13 (by decide) (fun h => absurd (by decide) h) (fun _ => ?_)
        refine lv_ldc (v := (-1000000001)) hx hb hown (hts _ (zz_m 1 rfl)) dX6_ask_16 ?_
        exact zz_iret X hr hlk Z28 () (by simp [sp_ask, w23]) [] [] (by decide +kernel) rfl rfl dX6_ask_18
    · have e5 : slot = 3 := e5
      subst e5
      refine zz_v (v := 1) (by decide) ?_
      refine lv_if_eq (tgt := 16) hx hb dX6_ask_4 (by decide) (fun h => absurd h (by decide)) (fun _ => ?_)
      refine lv_iload_n hx hb dX6_ask_7 rfl (lv_at hl 2 rfl) ?_
      refine lv_iconst (v := 0) hx hb dX6_ask_8 (by decide) ?_
      refine lv_iconst (v := 5) hx hb dX6_ask_9 (by decide) ?_
      refine zz_ci (WC := []) (TC := []) (WR := [(x, .inr (6, [.ref tx0, .ref nb, .ref tb, .ref ib, .ref ah, .ref tp, .ref rd, .ref sh, .ref sl, .ref wt, .int 0, .int 0, .int 0, .int 0, .int 0])), (sl, .inl (ksl, 5, .inr (.inr (.inr (.inr slf))))), (o0, .inr (3, [.int 0, .int 0, .ref oa0, .ref ob0])), (o1, .inr (3, [.int 0, .int 0, .ref oa1, .ref ob1])), (o2, .inr (3, [.int 0, .int 0, .ref oa2, .ref ob2])), (o3, .inr (3, [.int 0, .int 0, .ref oa3, .ref ob3])), (o4, .inr (3, [.int 0, .int 0, .ref oa4, .ref ob4]))]) (TR := [(ksl, .object RX3)]) (k := 0) (n := 0) Z4 [] [0, 1, 2, 3, 4, 5, 6] [] [0] rfl rfl (by decide +kernel) (by decide +kernel) (by decide +kernel) rfl rfl (fun Zc => va_runS (As := [.int kind, .int 0, .int 5]) (rest := []) X (c_within l D kind 0 5 H1.size) (va_cwS 3 hts gX6_ask_X6_within rfl rfl rfl zh_X6_within ⟨Nat.le_of_ble_eq_true rfl, Nat.le_of_ble_eq_true rfl⟩) (zz_pS Zc) rfl rfl hl.1 rfl (lv_room (Nat.le_of_ble_eq_true rfl)) dX6_ask_10 ⟨Nat.le_of_ble_eq_true rfl, Nat.le_of_ble_eq_true rfl⟩) rfl rfl (fun r29 u27 H35 locs36 hw28 Z37 => ?_)
      clear Z4
      subst r29
      have Z38 : zz_S D A s [(x, .inr (6, [.ref tx0, .ref nb, .ref tb, .ref ib, .ref ah, .ref tp, .ref rd, .ref sh, .ref sl, .ref wt, .int 0, .int 0, .int 0, .int 0, .int 0])), (sl, .inl (ksl, 5, .inr (.inr (.inr (.inr slf))))), (o0, .inr (3, [.int 0, .int 0, .ref oa0, .ref ob0])), (o1, .inr (3, [.int 0, .int 0, .ref oa1, .ref ob1])), (o2, .inr (3, [.int 0, .int 0, .ref oa2, .ref ob2])), (o3, .inr (3, [.int 0, .int 0, .ref oa3, .ref ob3])), (o4, .inr (3, [.int 0, .int 0, .ref oa4, .ref ob4]))] [(ksl, .object RX3)] H35 locs36 := Z37
      clear Z37
      by_cases w30 : 0 ≤ kind ∧ kind ≤ 5
      · refine zz_v (v := 1) (zz_wiT w30) ?_
        refine lv_if_ne (tgt := 19) hx hb dX6_ask_13 (by decide) (fun _ => ?_) (fun h => absurd h (by decide))
        refine lv_aload_n hx hb dX6_ask_19 rfl (lv_at hl 0 rfl) ?_
        refine zz_get X Z38 0 rfl rfl (fun w h => List.mem_cons_of_mem _ (List.mem_append_left _ (List.mem_append_left _ (List.mem_append_right _ h)))) 8 rfl (zz_m 2 rfl) rfl dX6_ask_20 ?_
        refine lv_iload_n hx hb dX6_ask_23 rfl (lv_at hl 1 rfl) ?_
        refine zz_ald X Z38 1 0 rfl rfl (zz_in 3 5 rfl) (v := .ref o3) aslf_3 dX6_ask_24 ?_
        refine lv_iconst (v := 1) hx hb dX6_ask_25 (by decide) ?_
        refine zz_ci (WC := [(o3, .inr (3, [.int 0, .int 0, .ref oa3, .ref ob3]))]) (TC := []) (WR := [(x, .inr (6, [.ref tx0, .ref nb, .ref tb, .ref ib, .ref ah, .ref tp, .ref rd, .ref sh, .ref sl, .ref wt, .int 0, .int 0, .int 0, .int 0, .int 0])), (sl, .inl (ksl, 5, .inr (.inr (.inr (.inr slf))))), (o0, .inr (3, [.int 0, .int 0, .ref oa0, .ref ob0])), (o1, .inr (3, [.int 0, .int 0, .ref oa1, .ref ob1])), (o2, .inr (3, [.int 0, .int 0, .ref oa2, .ref ob2])), (o4, .inr (3, [.int 0, .int 0, .ref oa4, .ref ob4]))]) (TR := [(ksl, .object RX3)]) (k := 0) (n := 0) Z38 [5] [0, 1, 2, 3, 4, 6] [] [0] rfl rfl (by decide +kernel) (by decide +kernel) (by decide +kernel) rfl rfl (fun Zc => va_runV (As := [.int 1]) (rest := []) X (c_refuses l D o3 0 oa3 ob3 1 H35.size) (cwV 1 hts gX6_ask_X3_refuses rfl rfl rfl ⟨rfl, zh_X3_refuses⟩ ⟨Nat.le_of_ble_eq_true rfl, Nat.le_of_ble_eq_true rfl⟩) (zz_pV (ci := 3) Zc 0 rfl rfl) rfl rfl hl.1 rfl (lv_room (Nat.le_of_ble_eq_true rfl)) dX6_ask_26 ⟨Nat.le_of_ble_eq_true rfl, Nat.le_of_ble_eq_true rfl⟩) rfl rfl (fun r33 u31 H39 locs40 hw32 Z41 => ?_)
        clear Z38
        have hw32 : r33 = (-1000000011) := hw32.trans (by decide)
        subst r33
        have Z42 : zz_S D A s [(x, .inr (6, [.ref tx0, .ref nb, .ref tb, .ref ib, .ref ah, .ref tp, .ref rd, .ref sh, .ref sl, .ref wt, .int 0, .int 0, .int 0, .int 0, .int 0])), (sl, .inl (ksl, 5, .inr (.inr (.inr (.inr slf))))), (o0, .inr (3, [.int 0, .int 0, .ref oa0, .ref ob0])), (o1, .inr (3, [.int 0, .int 0, .ref oa1, .ref ob1])), (o2, .inr (3, [.int 0, .int 0, .ref oa2, .ref ob2])), (o4, .inr (3, [.int 0, .int 0, .ref oa4, .ref ob4])), (o3, .inr (3, [.int 0, .int 0, .ref oa3, .ref ob3]))] [(ksl, .object RX3)] H39 locs40 := Z41
        clear Z41
        refine lv_istore_n (lv' := [(3, .int (-1000000011)), (0, .ref x), (1, .int 3), (2, .int kind)]) hx hb dX6_ask_29 rfl hl (by decide) rfl (fun ls43 hl44 => ?_)
        clear hl
        refine lv_iload_n hx hb dX6_ask_30 rfl (lv_at hl44 0 rfl) ?_
        refine lv_if_eq (tgt := 36) hx hb dX6_ask_31 (by decide) (fun h => absurd h (by decide)) (fun _ => ?_)
        refine lv_iload_n hx hb dX6_ask_34 rfl (lv_at hl44 0 rfl) ?_
        exact zz_iret X hr hlk Z42 () (by simp [sp_ask, w30]) [] [] (by decide +kernel) rfl rfl dX6_ask_35
      · refine zz_v (v := 0) (zz_wiF w30) ?_
        refine lv_if_ne (tgt := 19) hx hb dX6_ask_13 (by decide) (fun h => absurd (by decide) h) (fun _ => ?_)
        refine lv_ldc (v := (-1000000001)) hx hb hown (hts _ (zz_m 1 rfl)) dX6_ask_16 ?_
        exact zz_iret X hr hlk Z38 () (by simp [sp_ask, w30]) [] [] (by decide +kernel) rfl rfl dX6_ask_18
    · have e5 : slot = 4 := e5
      subst e5
      refine zz_v (v := 1) (by decide) ?_
      refine lv_if_eq (tgt := 16) hx hb dX6_ask_4 (by decide) (fun h => absurd h (by decide)) (fun _ => ?_)
      refine lv_iload_n hx hb dX6_ask_7 rfl (lv_at hl 2 rfl) ?_
      refine lv_iconst (v := 0) hx hb dX6_ask_8 (by decide) ?_
      refine lv_iconst (v := 5) hx hb dX6_ask_9 (by decide) ?_
      refine zz_ci (WC := []) (TC := []) (WR := [(x, .inr (6, [.ref tx0, .ref nb, .ref tb, .ref ib, .ref ah, .ref tp, .ref rd, .ref sh, .ref sl, .ref wt, .int 0, .int 0, .int 0, .int 0, .int 0])), (sl, .inl (ksl, 5, .inr (.inr (.inr (.inr slf))))), (o0, .inr (3, [.int 0, .int 0, .ref oa0, .ref ob0])), (o1, .inr (3, [.int 0, .int 0, .ref oa1, .ref ob1])), (o2, .inr (3, [.int 0, .int 0, .ref oa2, .ref ob2])), (o3, .inr (3, [.int 0, .int 0, .ref oa3, .ref ob3])), (o4, .inr (3, [.int 0, .int 0, .ref oa4, .ref ob4]))]) (TR := [(ksl, .object RX3)]) (k := 0) (n := 0) Z4 [] [0, 1, 2, 3, 4, 5, 6] [] [0] rfl rfl (by decide +kernel) (by decide +kernel) (by decide +kernel) rfl rfl (fun Zc => va_runS (As := [.int kind, .int 0, .int 5]) (rest := []) X (c_within l D kind 0 5 H1.size) (va_cwS 3 hts gX6_ask_X6_within rfl rfl rfl zh_X6_within ⟨Nat.le_of_ble_eq_true rfl, Nat.le_of_ble_eq_true rfl⟩) (zz_pS Zc) rfl rfl hl.1 rfl (lv_room (Nat.le_of_ble_eq_true rfl)) dX6_ask_10 ⟨Nat.le_of_ble_eq_true rfl, Nat.le_of_ble_eq_true rfl⟩) rfl rfl (fun r36 u34 H45 locs46 hw35 Z47 => ?_)
      clear Z4
      subst r36
      have Z48 : zz_S D A s [(x, .inr (6, [.ref tx0, .ref nb, .ref tb, .ref ib, .ref ah, .ref tp, .ref rd, .ref sh, .ref sl, .ref wt, .int 0, .int 0, .int 0, .int 0, .int 0])), (sl, .inl (ksl, 5, .inr (.inr (.inr (.inr slf))))), (o0, .inr (3, [.int 0, .int 0, .ref oa0, .ref ob0])), (o1, .inr (3, [.int 0, .int 0, .ref oa1, .ref ob1])), (o2, .inr (3, [.int 0, .int 0, .ref oa2, .ref ob2])), (o3, .inr (3, [.int 0, .int 0, .ref oa3, .ref ob3])), (o4, .inr (3, [.int 0, .int 0, .ref oa4, .ref ob4]))] [(ksl, .object RX3)] H45 locs46 := Z47
      clear Z47
      by_cases w37 : 0 ≤ kind ∧ kind ≤ 5
      · refine zz_v (v := 1) (zz_wiT w37) ?_
        refine lv_if_ne (tgt := 19) hx hb dX6_ask_13 (by decide) (fun _ => ?_) (fun h => absurd h (by decide))
        refine lv_aload_n hx hb dX6_ask_19 rfl (lv_at hl 0 rfl) ?_
        refine zz_get X Z48 0 rfl rfl (fun w h => List.mem_cons_of_mem _ (List.mem_append_left _ (List.mem_append_left _ (List.mem_append_right _ h)))) 8 rfl (zz_m 2 rfl) rfl dX6_ask_20 ?_
        refine lv_iload_n hx hb dX6_ask_23 rfl (lv_at hl 1 rfl) ?_
        refine zz_ald X Z48 1 0 rfl rfl (zz_in 4 5 rfl) (v := .ref o4) aslf_4 dX6_ask_24 ?_
        refine lv_iconst (v := 1) hx hb dX6_ask_25 (by decide) ?_
        refine zz_ci (WC := [(o4, .inr (3, [.int 0, .int 0, .ref oa4, .ref ob4]))]) (TC := []) (WR := [(x, .inr (6, [.ref tx0, .ref nb, .ref tb, .ref ib, .ref ah, .ref tp, .ref rd, .ref sh, .ref sl, .ref wt, .int 0, .int 0, .int 0, .int 0, .int 0])), (sl, .inl (ksl, 5, .inr (.inr (.inr (.inr slf))))), (o0, .inr (3, [.int 0, .int 0, .ref oa0, .ref ob0])), (o1, .inr (3, [.int 0, .int 0, .ref oa1, .ref ob1])), (o2, .inr (3, [.int 0, .int 0, .ref oa2, .ref ob2])), (o3, .inr (3, [.int 0, .int 0, .ref oa3, .ref ob3]))]) (TR := [(ksl, .object RX3)]) (k := 0) (n := 0) Z48 [6] [0, 1, 2, 3, 4, 5] [] [0] rfl rfl (by decide +kernel) (by decide +kernel) (by decide +kernel) rfl rfl (fun Zc => va_runV (As := [.int 1]) (rest := []) X (c_refuses l D o4 0 oa4 ob4 1 H45.size) (cwV 1 hts gX6_ask_X3_refuses rfl rfl rfl ⟨rfl, zh_X3_refuses⟩ ⟨Nat.le_of_ble_eq_true rfl, Nat.le_of_ble_eq_true rfl⟩) (zz_pV (ci := 3) Zc 0 rfl rfl) rfl rfl hl.1 rfl (lv_room (Nat.le_of_ble_eq_true rfl)) dX6_ask_26 ⟨Nat.le_of_ble_eq_true rfl, Nat.le_of_ble_eq_true rfl⟩) rfl rfl (fun r40 u38 H49 locs50 hw39 Z51 => ?_)
        clear Z48
        have hw39 : r40 = (-1000000011) := hw39.trans (by decide)
        subst r40
        have Z52 : zz_S D A s [(x, .inr (6, [.ref tx0, .ref nb, .ref tb, .ref ib, .ref ah, .ref tp, .ref rd, .ref sh, .ref sl, .ref wt, .int 0, .int 0, .int 0, .int 0, .int 0])), (sl, .inl (ksl, 5, .inr (.inr (.inr (.inr slf))))), (o0, .inr (3, [.int 0, .int 0, .ref oa0, .ref ob0])), (o1, .inr (3, [.int 0, .int 0, .ref oa1, .ref ob1])), (o2, .inr (3, [.int 0, .int 0, .ref oa2, .ref ob2])), (o3, .inr (3, [.int 0, .int 0, .ref oa3, .ref ob3])), (o4, .inr (3, [.int 0, .int 0, .ref oa4, .ref ob4]))] [(ksl, .object RX3)] H49 locs50 := Z51
        clear Z51
        refine lv_istore_n (lv' := [(3, .int (-1000000011)), (0, .ref x), (1, .int 4), (2, .int kind)]) hx hb dX6_ask_29 rfl hl (by decide) rfl (fun ls53 hl54 => ?_)
        clear hl
        refine lv_iload_n hx hb dX6_ask_30 rfl (lv_at hl54 0 rfl) ?_
        refine lv_if_eq (tgt := 36) hx hb dX6_ask_31 (by decide) (fun h => absurd h (by decide)) (fun _ => ?_)
        refine lv_iload_n hx hb dX6_ask_34 rfl (lv_at hl54 0 rfl) ?_
        exact zz_iret X hr hlk Z52 () (by simp [sp_ask, w37]) [] [] (by decide +kernel) rfl rfl dX6_ask_35
      · refine zz_v (v := 0) (zz_wiF w37) ?_
        refine lv_if_ne (tgt := 19) hx hb dX6_ask_13 (by decide) (fun h => absurd (by decide) h) (fun _ => ?_)
        refine lv_ldc (v := (-1000000001)) hx hb hown (hts _ (zz_m 1 rfl)) dX6_ask_16 ?_
        exact zz_iret X hr hlk Z48 () (by simp [sp_ask, w37]) [] [] (by decide +kernel) rfl rfl dX6_ask_18
  · refine zz_v (v := 0) (zz_wiF w4) ?_
    refine lv_if_eq (tgt := 16) hx hb dX6_ask_4 (by decide) (fun _ => ?_) (fun h => absurd (by decide) h)
    refine lv_ldc (v := (-1000000001)) hx hb hown (hts _ (zz_m 1 rfl)) dX6_ask_16 ?_
    exact zz_iret X hr hlk Z4 () (by simp [sp_ask, w4]) [] [] (by decide +kernel) rfl rfl dX6_ask_18

set_option maxHeartbeats 4000000 in
set_option maxRecDepth 100000 in
theorem c6_item (l : Launch) (D : va_G) (x : Nat) (tx0 : Nat) (nb : Nat) (tb : Nat) (ib : Nat) (ah : Nat) (tp : Nat) (rd : Nat) (sh : Nat) (sl : Nat) (wt : Nat) (ksl : ClassId) (slf : (Nat → Option Nat)) (o0 : Nat) (o1 : Nat) (o2 : Nat) (o3 : Nat) (o4 : Nat) (oa0 : Nat) (oa1 : Nat) (oa2 : Nat) (oa3 : Nat) (oa4 : Nat) (ob0 : Nat) (ob1 : Nat) (ob2 : Nat) (ob3 : Nat) (ob4 : Nat) (slot : Int32) (place : Int32) (aslf_0 : va_rf (slf 0) = .ref o0) (aslf_1 : va_rf (slf 1) = .ref o1) (aslf_2 : va_rf (slf 2) = .ref o2) (aslf_3 : va_rf (slf 3) = .ref o3) (aslf_4 : va_rf (slf 4) = .ref o4) : zz_MI l yX6_item wsX6_item 2 42 0 0 D [.ref x, .int slot, .int place] [(x, .inr (6, [.ref tx0, .ref nb, .ref tb, .ref ib, .ref ah, .ref tp, .ref rd, .ref sh, .ref sl, .ref wt, .int 0, .int 0, .int 0, .int 0, .int 0])), (sl, .inl (ksl, 5, .inr (.inr (.inr (.inr slf))))), (o0, .inr (3, [.int 0, .int 0, .ref oa0, .ref ob0])), (o1, .inr (3, [.int 0, .int 0, .ref oa1, .ref ob1])), (o2, .inr (3, [.int 0, .int 0, .ref oa2, .ref ob2])), (o3, .inr (3, [.int 0, .int 0, .ref oa3, .ref ob3])), (o4, .inr (3, [.int 0, .int 0, .ref oa4, .ref ob4]))] [(ksl, .object RX3)] (fun (r : Int32) (u : Unit) => r = sp_sl slot) (fun (u : Unit) => []) (fun (u : Unit) => []) := by
  intro sz
  refine Met.ofW (cc := cX6_item) (maxL := 5) (ret := (some .int)) (by decide) rfl ?_
  intro p e s m args below meth c s₁ B hml hv
  obtain ⟨rfl, hC⟩ := hv
  have hx := B.exec
  have hb := B.bytes
  have hr := B.returns
  have hts := atoms_spec (ws := wsX6_item) B.pre
  have hown : s.vm.findClass RX6 = some m.cls := findClass_of_methodNamed B.named
  have hlk := B.notSynchronized
  have X : CallFix p m c cX6_item 5 s _ wsX6_item RX6 := ⟨hx, hb, hml, hown, hts⟩
  have Z := zz_enter hC
  generalize va_A [(x, .inr (6, [.ref tx0, .ref nb, .ref tb, .ref ib, .ref ah, .ref tp, .ref rd, .ref sh, .ref sl, .ref wt, .int 0, .int 0, .int 0, .int 0, .int 0])), (sl, .inl (ksl, 5, .inr (.inr (.inr (.inr slf))))), (o0, .inr (3, [.int 0, .int 0, .ref oa0, .ref ob0])), (o1, .inr (3, [.int 0, .int 0, .ref oa1, .ref ob1])), (o2, .inr (3, [.int 0, .int 0, .ref oa2, .ref ob2])), (o3, .inr (3, [.int 0, .int 0, .ref oa3, .ref ob3])), (o4, .inr (3, [.int 0, .int 0, .ref oa4, .ref ob4]))] sz = A at Z ⊢
  have hl := lv_entry ([.ref x, .int slot, .int place]) (n := 5) (Nat.le_of_ble_eq_true rfl)
  rw [lg_entry_eq]
  generalize (lg_sl ([.ref x, .int slot, .int place]) ++ List.replicate (5 - (lg_sl ([.ref x, .int slot, .int place])).length) Slot.unset).toArray = ls at hl ⊢
  have hl : lv_has ls 5 [(0, .ref x), (1, .int slot), (2, .int place)] := hl
  refine lv_iload_n hx hb dX6_item_0 rfl (lv_at hl 1 rfl) ?_
  refine zz_ci (WC := []) (TC := []) (WR := [(x, .inr (6, [.ref tx0, .ref nb, .ref tb, .ref ib, .ref ah, .ref tp, .ref rd, .ref sh, .ref sl, .ref wt, .int 0, .int 0, .int 0, .int 0, .int 0])), (sl, .inl (ksl, 5, .inr (.inr (.inr (.inr slf))))), (o0, .inr (3, [.int 0, .int 0, .ref oa0, .ref ob0])), (o1, .inr (3, [.int 0, .int 0, .ref oa1, .ref ob1])), (o2, .inr (3, [.int 0, .int 0, .ref oa2, .ref ob2])), (o3, .inr (3, [.int 0, .int 0, .ref oa3, .ref ob3])), (o4, .inr (3, [.int 0, .int 0, .ref oa4, .ref ob4]))]) (TR := [(ksl, .object RX3)]) (k := 0) (n := 0) Z [] [0, 1, 2, 3, 4, 5, 6] [] [0] rfl rfl (by decide +kernel) (by decide +kernel) (by decide +kernel) rfl rfl (fun Zc => va_runS (As := [.int slot]) (rest := []) X (c_isSlot l D slot s.heap.size) (va_cwS 1 hts gX6_item_X6_isSlot rfl rfl rfl zh_X6_isSlot ⟨Nat.le_of_ble_eq_true rfl, Nat.le_of_ble_eq_true rfl⟩) (zz_pS Zc) rfl rfl hl.1 rfl (lv_room (Nat.le_of_ble_eq_true rfl)) dX6_item_1 ⟨Nat.le_of_ble_eq_true rfl, Nat.le_of_ble_eq_true rfl⟩) rfl rfl (fun r3 u1 H1 locs2 hw2 Z3 => ?_)
  clear Z
  subst r3
  have Z4 : zz_S D A s [(x, .inr (6, [.ref tx0, .ref nb, .ref tb, .ref ib, .ref ah, .ref tp, .ref rd, .ref sh, .ref sl, .ref wt, .int 0, .int 0, .int 0, .int 0, .int 0])), (sl, .inl (ksl, 5, .inr (.inr (.inr (.inr slf))))), (o0, .inr (3, [.int 0, .int 0, .ref oa0, .ref ob0])), (o1, .inr (3, [.int 0, .int 0, .ref oa1, .ref ob1])), (o2, .inr (3, [.int 0, .int 0, .ref oa2, .ref ob2])), (o3, .inr (3, [.int 0, .int 0, .ref oa3, .ref ob3])), (o4, .inr (3, [.int 0, .int 0, .ref oa4, .ref ob4]))] [(ksl, .object RX3)] H1 locs2 := Z3
  clear Z3
  by_cases w4 : 0 ≤ slot ∧ slot ≤ 4
  · obtain ⟨j, hj, e5⟩ := zz_rng 4 w4 (by decide)
    rcases (show j = 0 ∨ j = 1 ∨ j = 2 ∨ j = 3 ∨ j = 4 by omega) with rfl | rfl | rfl | rfl | rfl
    · have e5 : slot = 0 := e5
      subst e5
      refine zz_v (v := 1) (by decide) ?_
      refine lv_if_ne (tgt := 10) hx hb dX6_item_4 (by decide) (fun _ => ?_) (fun h => absurd h (by decide))
      refine lv_aload_n hx hb dX6_item_10 rfl (lv_at hl 0 rfl) ?_
      refine zz_get X Z4 0 rfl rfl (fun w h => List.mem_cons_of_mem _ (List.mem_append_left _ (List.mem_append_left _ (List.mem_append_right _ h)))) 8 rfl (zz_m 2 rfl) rfl dX6_item_11 ?_
      refine lv_iload_n hx hb dX6_item_14 rfl (lv_at hl 1 rfl) ?_
      refine zz_ald X Z4 1 0 rfl rfl (zz_in 0 5 rfl) (v := .ref o0) aslf_0 dX6_item_15 ?_
      refine lv_iconst (v := 2) hx hb dX6_item_16 (by decide) ?_
      refine zz_ci (WC := [(o0, .inr (3, [.int 0, .int 0, .ref oa0, .ref ob0]))]) (TC := []) (WR := [(x, .inr (6, [.ref tx0, .ref nb, .ref tb, .ref ib, .ref ah, .ref tp, .ref rd, .ref sh, .ref sl, .ref wt, .int 0, .int 0, .int 0, .int 0, .int 0])), (sl, .inl (ksl, 5, .inr (.inr (.inr (.inr slf))))), (o1, .inr (3, [.int 0, .int 0, .ref oa1, .ref ob1])), (o2, .inr (3, [.int 0, .int 0, .ref oa2, .ref ob2])), (o3, .inr (3, [.int 0, .int 0, .ref oa3, .ref ob3])), (o4, .inr (3, [.int 0, .int 0, .ref oa4, .ref ob4]))]) (TR := [(ksl, .object RX3)]) (k := 0) (n := 0) Z4 [2] [0, 1, 3, 4, 5, 6] [] [0] rfl rfl (by decide +kernel) (by decide +kernel) (by decide +kernel) rfl rfl (fun Zc => va_runV (As := [.int 2]) (rest := []) X (c_refuses l D o0 0 oa0 ob0 2 H1.size) (cwV 1 hts gX6_item_X3_refuses rfl rfl rfl ⟨rfl, zh_X3_refuses⟩ ⟨Nat.le_of_ble_eq_true rfl, Nat.le_of_ble_eq_true rfl⟩) (zz_pV (ci := 3) Zc 0 rfl rfl) rfl rfl hl.1 rfl (lv_room (Nat.le_of_ble_eq_true rfl)) dX6_item_17 ⟨Nat.le_of_ble_eq_true rfl, Nat.le_of_ble_eq_true rfl⟩) rfl rfl (fun r8 u6 H5 locs6 hw7 Z7 => ?_)
      clear Z4
      have hw7 : r8 = (-1000000011) := hw7.trans (by decide)
      subst r8
      have Z8 : zz_S D A s [(x, .inr (6, [.ref tx0, .ref nb, .ref tb, .ref ib, .ref ah, .ref tp, .ref rd, .ref sh, .ref sl, .ref wt, .int 0, .int 0, .int 0, .int 0, .int 0])), (sl, .inl (ksl, 5, .inr (.inr (.inr (.inr slf))))), (o1, .inr (3, [.int 0, .int 0, .ref oa1, .ref ob1])), (o2, .inr (3, [.int 0, .int 0, .ref oa2, .ref ob2])), (o3, .inr (3, [.int 0, .int 0, .ref oa3, .ref ob3])), (o4, .inr (3, [.int 0, .int 0, .ref oa4, .ref ob4])), (o0, .inr (3, [.int 0, .int 0, .ref oa0, .ref ob0]))] [(ksl, .object RX3)] H5 locs6 := Z7
      clear Z7
      refine lv_istore_n (lv' := [(3, .int (-1000000011)), (0, .ref x), (1, .int 0), (2, .int place)]) hx hb dX6_item_20 rfl hl (by decide) rfl (fun ls9 hl10 => ?_)
      clear hl
      refine lv_iload_n hx hb dX6_item_21 rfl (lv_at hl10 0 rfl) ?_
      refine lv_if_eq (tgt := 27) hx hb dX6_item_22 (by decide) (fun h => absurd h (by decide)) (fun _ => ?_)
      refine lv_iload_n hx hb dX6_item_25 rfl (lv_at hl10 0 rfl) ?_
      exact zz_iret X hr hlk Z8 () (by simp [sp_sl]) [] [] (by decide +kernel) rfl rfl dX6_item_26
    · have e5 : slot = 1 := e5
      subst e5
      refine zz_v (v := 1) (by decide) ?_
      refine lv_if_ne (tgt := 10) hx hb dX6_item_4 (by decide) (fun _ => ?_) (fun h => absurd h (by decide))
      refine lv_aload_n hx hb dX6_item_10 rfl (lv_at hl 0 rfl) ?_
      refine zz_get X Z4 0 rfl rfl (fun w h => List.mem_cons_of_mem _ (List.mem_append_left _ (List.mem_append_left _ (List.mem_append_right _ h)))) 8 rfl (zz_m 2 rfl) rfl dX6_item_11 ?_
      refine lv_iload_n hx hb dX6_item_14 rfl (lv_at hl 1 rfl) ?_
      refine zz_ald X Z4 1 0 rfl rfl (zz_in 1 5 rfl) (v := .ref o1) aslf_1 dX6_item_15 ?_
      refine lv_iconst (v := 2) hx hb dX6_item_16 (by decide) ?_
      refine zz_ci (WC := [(o1, .inr (3, [.int 0, .int 0, .ref oa1, .ref ob1]))]) (TC := []) (WR := [(x, .inr (6, [.ref tx0, .ref nb, .ref tb, .ref ib, .ref ah, .ref tp, .ref rd, .ref sh, .ref sl, .ref wt, .int 0, .int 0, .int 0, .int 0, .int 0])), (sl, .inl (ksl, 5, .inr (.inr (.inr (.inr slf))))), (o0, .inr (3, [.int 0, .int 0, .ref oa0, .ref ob0])), (o2, .inr (3, [.int 0, .int 0, .ref oa2, .ref ob2])), (o3, .inr (3, [.int 0, .int 0, .ref oa3, .ref ob3])), (o4, .inr (3, [.int 0, .int 0, .ref oa4, .ref ob4]))]) (TR := [(ksl, .object RX3)]) (k := 0) (n := 0) Z4 [3] [0, 1, 2, 4, 5, 6] [] [0] rfl rfl (by decide +kernel) (by decide +kernel) (by decide +kernel) rfl rfl (fun Zc => va_runV (As := [.int 2]) (rest := []) X (c_refuses l D o1 0 oa1 ob1 2 H1.size) (cwV 1 hts gX6_item_X3_refuses rfl rfl rfl ⟨rfl, zh_X3_refuses⟩ ⟨Nat.le_of_ble_eq_true rfl, Nat.le_of_ble_eq_true rfl⟩) (zz_pV (ci := 3) Zc 0 rfl rfl) rfl rfl hl.1 rfl (lv_room (Nat.le_of_ble_eq_true rfl)) dX6_item_17 ⟨Nat.le_of_ble_eq_true rfl, Nat.le_of_ble_eq_true rfl⟩) rfl rfl (fun r11 u9 H11 locs12 hw10 Z13 => ?_)
      clear Z4
      have hw10 : r11 = (-1000000011) := hw10.trans (by decide)
      subst r11
      have Z14 : zz_S D A s [(x, .inr (6, [.ref tx0, .ref nb, .ref tb, .ref ib, .ref ah, .ref tp, .ref rd, .ref sh, .ref sl, .ref wt, .int 0, .int 0, .int 0, .int 0, .int 0])), (sl, .inl (ksl, 5, .inr (.inr (.inr (.inr slf))))), (o0, .inr (3, [.int 0, .int 0, .ref oa0, .ref ob0])), (o2, .inr (3, [.int 0, .int 0, .ref oa2, .ref ob2])), (o3, .inr (3, [.int 0, .int 0, .ref oa3, .ref ob3])), (o4, .inr (3, [.int 0, .int 0, .ref oa4, .ref ob4])), (o1, .inr (3, [.int 0, .int 0, .ref oa1, .ref ob1]))] [(ksl, .object RX3)] H11 locs12 := Z13
      clear Z13
      refine lv_istore_n (lv' := [(3, .int (-1000000011)), (0, .ref x), (1, .int 1), (2, .int place)]) hx hb dX6_item_20 rfl hl (by decide) rfl (fun ls15 hl16 => ?_)
      clear hl
      refine lv_iload_n hx hb dX6_item_21 rfl (lv_at hl16 0 rfl) ?_
      refine lv_if_eq (tgt := 27) hx hb dX6_item_22 (by decide) (fun h => absurd h (by decide)) (fun _ => ?_)
      refine lv_iload_n hx hb dX6_item_25 rfl (lv_at hl16 0 rfl) ?_
      exact zz_iret X hr hlk Z14 () (by simp [sp_sl]) [] [] (by decide +kernel) rfl rfl dX6_item_26
    · have e5 : slot = 2 := e5
      subst e5
      refine zz_v (v := 1) (by decide) ?_
      refine lv_if_ne (tgt := 10) hx hb dX6_item_4 (by decide) (fun _ => ?_) (fun h => absurd h (by decide))
      refine lv_aload_n hx hb dX6_item_10 rfl (lv_at hl 0 rfl) ?_
      refine zz_get X Z4 0 rfl rfl (fun w h => List.mem_cons_of_mem _ (List.mem_append_left _ (List.mem_append_left _ (List.mem_append_right _ h)))) 8 rfl (zz_m 2 rfl) rfl dX6_item_11 ?_
      refine lv_iload_n hx hb dX6_item_14 rfl (lv_at hl 1 rfl) ?_
      refine zz_ald X Z4 1 0 rfl rfl (zz_in 2 5 rfl) (v := .ref o2) aslf_2 dX6_item_15 ?_
      refine lv_iconst (v := 2) hx hb dX6_item_16 (by decide) ?_
      refine zz_ci (WC := [(o2, .inr (3, [.int 0, .int 0, .ref oa2, .ref ob2]))]) (TC := []) (WR := [(x, .inr (6, [.ref tx0, .ref nb, .ref tb, .ref ib, .ref ah, .ref tp, .ref rd, .ref sh, .ref sl, .ref wt, .int 0, .int 0, .int 0, .int 0, .int 0])), (sl, .inl (ksl, 5, .inr (.inr (.inr (.inr slf))))), (o0, .inr (3, [.int 0, .int 0, .ref oa0, .ref ob0])), (o1, .inr (3, [.int 0, .int 0, .ref oa1, .ref ob1])), (o3, .inr (3, [.int 0, .int 0, .ref oa3, .ref ob3])), (o4, .inr (3, [.int 0, .int 0, .ref oa4, .ref ob4]))]) (TR := [(ksl, .object RX3)]) (k := 0) (n := 0) Z4 [4] [0, 1, 2, 3, 5, 6] [] [0] rfl rfl (by decide +kernel) (by decide +kernel) (by decide +kernel) rfl rfl (fun Zc => va_runV (As := [.int 2]) (rest := []) X (c_refuses l D o2 0 oa2 ob2 2 H1.size) (cwV 1 hts gX6_item_X3_refuses rfl rfl rfl ⟨rfl, zh_X3_refuses⟩ ⟨Nat.le_of_ble_eq_true rfl, Nat.le_of_ble_eq_true rfl⟩) (zz_pV (ci := 3) Zc 0 rfl rfl) rfl rfl hl.1 rfl (lv_room (Nat.le_of_ble_eq_true rfl)) dX6_item_17 ⟨Nat.le_of_ble_eq_true rfl, Nat.le_of_ble_eq_true rfl⟩) rfl rfl (fun r14 u12 H17 locs18 hw13 Z19 => ?_)
      clear Z4
      have hw13 : r14 = (-1000000011) := hw13.trans (by decide)
      subst r14
      have Z20 : zz_S D A s [(x, .inr (6, [.ref tx0, .ref nb, .ref tb, .ref ib, .ref ah, .ref tp, .ref rd, .ref sh, .ref sl, .ref wt, .int 0, .int 0, .int 0, .int 0, .int 0])), (sl, .inl (ksl, 5, .inr (.inr (.inr (.inr slf))))), (o0, .inr (3, [.int 0, .int 0, .ref oa0, .ref ob0])), (o1, .inr (3, [.int 0, .int 0, .ref oa1, .ref ob1])), (o3, .inr (3, [.int 0, .int 0, .ref oa3, .ref ob3])), (o4, .inr (3, [.int 0, .int 0, .ref oa4, .ref ob4])), (o2, .inr (3, [.int 0, .int 0, .ref oa2, .ref ob2]))] [(ksl, .object RX3)] H17 locs18 := Z19
      clear Z19
      refine lv_istore_n (lv' := [(3, .int (-1000000011)), (0, .ref x), (1, .int 2), (2, .int place)]) hx hb dX6_item_20 rfl hl (by decide) rfl (fun ls21 hl22 => ?_)
      clear hl
      refine lv_iload_n hx hb dX6_item_21 rfl (lv_at hl22 0 rfl) ?_
      refine lv_if_eq (tgt := 27) hx hb dX6_item_22 (by decide) (fun h => absurd h (by decide)) (fun _ => ?_)
      refine lv_iload_n hx hb dX6_item_25 rfl (lv_at hl22 0 rfl) ?_
      exact zz_iret X hr hlk Z20 () (by simp [sp_sl]) [] [] (by decide +kernel) rfl rfl dX6_item_26
    · have e5 : slot = 3 := e5
      subst e5
      refine zz_v (v := 1) (by decide) ?_
      refine lv_if_ne (tgt := 10) hx hb dX6_item_4 (by decide) (fun _ => ?_) (fun h => absurd h (by decide))
      refine lv_aload_n hx hb dX6_item_10 rfl (lv_at hl 0 rfl) ?_
      refine zz_get X Z4 0 rfl rfl (fun w h => List.mem_cons_of_mem _ (List.mem_append_left _ (List.mem_append_left _ (List.mem_append_right _ h)))) 8 rfl (zz_m 2 rfl) rfl dX6_item_11 ?_
      refine lv_iload_n hx hb dX6_item_14 rfl (lv_at hl 1 rfl) ?_
      refine zz_ald X Z4 1 0 rfl rfl (zz_in 3 5 rfl) (v := .ref o3) aslf_3 dX6_item_15 ?_
      refine lv_iconst (v := 2) hx hb dX6_item_16 (by decide) ?_
      refine zz_ci (WC := [(o3, .inr (3, [.int 0, .int 0, .ref oa3, .ref ob3]))]) (TC := []) (WR := [(x, .inr (6, [.ref tx0, .ref nb, .ref tb, .ref ib, .ref ah, .ref tp, .ref rd, .ref sh, .ref sl, .ref wt, .int 0, .int 0, .int 0, .int 0, .int 0])), (sl, .inl (ksl, 5, .inr (.inr (.inr (.inr slf))))), (o0, .inr (3, [.int 0, .int 0, .ref oa0, .ref ob0])), (o1, .inr (3, [.int 0, .int 0, .ref oa1, .ref ob1])), (o2, .inr (3, [.int 0, .int 0, .ref oa2, .ref ob2])), (o4, .inr (3, [.int 0, .int 0, .ref oa4, .ref ob4]))]) (TR := [(ksl, .object RX3)]) (k := 0) (n := 0) Z4 [5] [0, 1, 2, 3, 4, 6] [] [0] rfl rfl (by decide +kernel) (by decide +kernel) (by decide +kernel) rfl rfl (fun Zc => va_runV (As := [.int 2]) (rest := []) X (c_refuses l D o3 0 oa3 ob3 2 H1.size) (cwV 1 hts gX6_item_X3_refuses rfl rfl rfl ⟨rfl, zh_X3_refuses⟩ ⟨Nat.le_of_ble_eq_true rfl, Nat.le_of_ble_eq_true rfl⟩) (zz_pV (ci := 3) Zc 0 rfl rfl) rfl rfl hl.1 rfl (lv_room (Nat.le_of_ble_eq_true rfl)) dX6_item_17 ⟨Nat.le_of_ble_eq_true rfl, Nat.le_of_ble_eq_true rfl⟩) rfl rfl (fun r17 u15 H23 locs24 hw16 Z25 => ?_)
      clear Z4
      have hw16 : r17 = (-1000000011) := hw16.trans (by decide)
      subst r17
      have Z26 : zz_S D A s [(x, .inr (6, [.ref tx0, .ref nb, .ref tb, .ref ib, .ref ah, .ref tp, .ref rd, .ref sh, .ref sl, .ref wt, .int 0, .int 0, .int 0, .int 0, .int 0])), (sl, .inl (ksl, 5, .inr (.inr (.inr (.inr slf))))), (o0, .inr (3, [.int 0, .int 0, .ref oa0, .ref ob0])), (o1, .inr (3, [.int 0, .int 0, .ref oa1, .ref ob1])), (o2, .inr (3, [.int 0, .int 0, .ref oa2, .ref ob2])), (o4, .inr (3, [.int 0, .int 0, .ref oa4, .ref ob4])), (o3, .inr (3, [.int 0, .int 0, .ref oa3, .ref ob3]))] [(ksl, .object RX3)] H23 locs24 := Z25
      clear Z25
      refine lv_istore_n (lv' := [(3, .int (-1000000011)), (0, .ref x), (1, .int 3), (2, .int place)]) hx hb dX6_item_20 rfl hl (by decide) rfl (fun ls27 hl28 => ?_)
      clear hl
      refine lv_iload_n hx hb dX6_item_21 rfl (lv_at hl28 0 rfl) ?_
      refine lv_if_eq (tgt := 27) hx hb dX6_item_22 (by decide) (fun h => absurd h (by decide)) (fun _ => ?_)
      refine lv_iload_n hx hb dX6_item_25 rfl (lv_at hl28 0 rfl) ?_
      exact zz_iret X hr hlk Z26 () (by simp [sp_sl]) [] [] (by decide +kernel) rfl rfl dX6_item_26
    · have e5 : slot = 4 := e5
      subst e5
      refine zz_v (v := 1) (by decide) ?_
      refine lv_if_ne (tgt := 10) hx hb dX6_item_4 (by decide) (fun _ => ?_) (fun h => absurd h (by decide))
      refine lv_aload_n hx hb dX6_item_10 rfl (lv_at hl 0 rfl) ?_
      refine zz_get X Z4 0 rfl rfl (fun w h => List.mem_cons_of_mem _ (List.mem_append_left _ (List.mem_append_left _ (List.mem_append_right _ h)))) 8 rfl (zz_m 2 rfl) rfl dX6_item_11 ?_
      refine lv_iload_n hx hb dX6_item_14 rfl (lv_at hl 1 rfl) ?_
      refine zz_ald X Z4 1 0 rfl rfl (zz_in 4 5 rfl) (v := .ref o4) aslf_4 dX6_item_15 ?_
      refine lv_iconst (v := 2) hx hb dX6_item_16 (by decide) ?_
      refine zz_ci (WC := [(o4, .inr (3, [.int 0, .int 0, .ref oa4, .ref ob4]))]) (TC := []) (WR := [(x, .inr (6, [.ref tx0, .ref nb, .ref tb, .ref ib, .ref ah, .ref tp, .ref rd, .ref sh, .ref sl, .ref wt, .int 0, .int 0, .int 0, .int 0, .int 0])), (sl, .inl (ksl, 5, .inr (.inr (.inr (.inr slf))))), (o0, .inr (3, [.int 0, .int 0, .ref oa0, .ref ob0])), (o1, .inr (3, [.int 0, .int 0, .ref oa1, .ref ob1])), (o2, .inr (3, [.int 0, .int 0, .ref oa2, .ref ob2])), (o3, .inr (3, [.int 0, .int 0, .ref oa3, .ref ob3]))]) (TR := [(ksl, .object RX3)]) (k := 0) (n := 0) Z4 [6] [0, 1, 2, 3, 4, 5] [] [0] rfl rfl (by decide +kernel) (by decide +kernel) (by decide +kernel) rfl rfl (fun Zc => va_runV (As := [.int 2]) (rest := []) X (c_refuses l D o4 0 oa4 ob4 2 H1.size) (cwV 1 hts gX6_item_X3_refuses rfl rfl rfl ⟨rfl, zh_X3_refuses⟩ ⟨Nat.le_of_ble_eq_true rfl, Nat.le_of_ble_eq_true rfl⟩) (zz_pV (ci := 3) Zc 0 rfl rfl) rfl rfl hl.1 rfl (lv_room (Nat.le_of_ble_eq_true rfl)) dX6_item_17 ⟨Nat.le_of_ble_eq_true rfl, Nat.le_of_ble_eq_true rfl⟩) rfl rfl (fun r20 u18 H29 locs30 hw19 Z31 => ?_)
      clear Z4
      have hw19 : r20 = (-1000000011) := hw19.trans (by decide)
      subst r20
      have Z32 : zz_S D A s [(x, .inr (6, [.ref tx0, .ref nb, .ref tb, .ref ib, .ref ah, .ref tp, .ref rd, .ref sh, .ref sl, .ref wt, .int 0, .int 0, .int 0, .int 0, .int 0])), (sl, .inl (ksl, 5, .inr (.inr (.inr (.inr slf))))), (o0, .inr (3, [.int 0, .int 0, .ref oa0, .ref ob0])), (o1, .inr (3, [.int 0, .int 0, .ref oa1, .ref ob1])), (o2, .inr (3, [.int 0, .int 0, .ref oa2, .ref ob2])), (o3, .inr (3, [.int 0, .int 0, .ref oa3, .ref ob3])), (o4, .inr (3, [.int 0, .int 0, .ref oa4, .ref ob4]))] [(ksl, .object RX3)] H29 locs30 := Z31
      clear Z31
      refine lv_istore_n (lv' := [(3, .int (-1000000011)), (0, .ref x), (1, .int 4), (2, .int place)]) hx hb dX6_item_20 rfl hl (by decide) rfl (fun ls33 hl34 => ?_)
      clear hl
      refine lv_iload_n hx hb dX6_item_21 rfl (lv_at hl34 0 rfl) ?_
      refine lv_if_eq (tgt := 27) hx hb dX6_item_22 (by decide) (fun h => absurd h (by decide)) (fun _ => ?_)
      refine lv_iload_n hx hb dX6_item_25 rfl (lv_at hl34 0 rfl) ?_
      exact zz_iret X hr hlk Z32 () (by simp [sp_sl]) [] [] (by decide +kernel) rfl rfl dX6_item_26
  · refine zz_v (v := 0) (zz_wiF w4) ?_
    refine lv_if_ne (tgt := 10) hx hb dX6_item_4 (by decide) (fun h => absurd (by decide) h) (fun _ => ?_)
    refine lv_ldc (v := (-1000000001)) hx hb hown (hts _ (zz_m 1 rfl)) dX6_item_7 ?_
    exact zz_iret X hr hlk Z4 () (by simp [sp_sl, w4]) [] [] (by decide +kernel) rfl rfl dX6_item_9

set_option maxHeartbeats 4000000 in
set_option maxRecDepth 100000 in
theorem c6_rest (l : Launch) (D : va_G) (x : Nat) (tx0 : Nat) (nb : Nat) (tb : Nat) (ib : Nat) (ah : Nat) (tp : Nat) (rd : Nat) (sh : Nat) (sl : Nat) (wt : Nat) (ksl : ClassId) (slf : (Nat → Option Nat)) (o0 : Nat) (o1 : Nat) (o2 : Nat) (o3 : Nat) (o4 : Nat) (oa0 : Nat) (oa1 : Nat) (oa2 : Nat) (oa3 : Nat) (oa4 : Nat) (ob0 : Nat) (ob1 : Nat) (ob2 : Nat) (ob3 : Nat) (ob4 : Nat) (slot : Int32) (n : Int32) (aslf_0 : va_rf (slf 0) = .ref o0) (aslf_1 : va_rf (slf 1) = .ref o1) (aslf_2 : va_rf (slf 2) = .ref o2) (aslf_3 : va_rf (slf 3) = .ref o3) (aslf_4 : va_rf (slf 4) = .ref o4) : zz_MI l yX6_rest wsX6_rest 2 42 0 0 D [.ref x, .int slot, .int n] [(x, .inr (6, [.ref tx0, .ref nb, .ref tb, .ref ib, .ref ah, .ref tp, .ref rd, .ref sh, .ref sl, .ref wt, .int 0, .int 0, .int 0, .int 0, .int 0])), (sl, .inl (ksl, 5, .inr (.inr (.inr (.inr slf))))), (o0, .inr (3, [.int 0, .int 0, .ref oa0, .ref ob0])), (o1, .inr (3, [.int 0, .int 0, .ref oa1, .ref ob1])), (o2, .inr (3, [.int 0, .int 0, .ref oa2, .ref ob2])), (o3, .inr (3, [.int 0, .int 0, .ref oa3, .ref ob3])), (o4, .inr (3, [.int 0, .int 0, .ref oa4, .ref ob4]))] [(ksl, .object RX3)] (fun (r : Int32) (u : Unit) => r = sp_sl slot) (fun (u : Unit) => []) (fun (u : Unit) => []) := by
  intro sz
  refine Met.ofW (cc := cX6_rest) (maxL := 4) (ret := (some .int)) (by decide) rfl ?_
  intro p e s m args below meth c s₁ B hml hv
  obtain ⟨rfl, hC⟩ := hv
  have hx := B.exec
  have hb := B.bytes
  have hr := B.returns
  have hts := atoms_spec (ws := wsX6_rest) B.pre
  have hown : s.vm.findClass RX6 = some m.cls := findClass_of_methodNamed B.named
  have hlk := B.notSynchronized
  have X : CallFix p m c cX6_rest 4 s _ wsX6_rest RX6 := ⟨hx, hb, hml, hown, hts⟩
  have Z := zz_enter hC
  generalize va_A [(x, .inr (6, [.ref tx0, .ref nb, .ref tb, .ref ib, .ref ah, .ref tp, .ref rd, .ref sh, .ref sl, .ref wt, .int 0, .int 0, .int 0, .int 0, .int 0])), (sl, .inl (ksl, 5, .inr (.inr (.inr (.inr slf))))), (o0, .inr (3, [.int 0, .int 0, .ref oa0, .ref ob0])), (o1, .inr (3, [.int 0, .int 0, .ref oa1, .ref ob1])), (o2, .inr (3, [.int 0, .int 0, .ref oa2, .ref ob2])), (o3, .inr (3, [.int 0, .int 0, .ref oa3, .ref ob3])), (o4, .inr (3, [.int 0, .int 0, .ref oa4, .ref ob4]))] sz = A at Z ⊢
  have hl := lv_entry ([.ref x, .int slot, .int n]) (n := 4) (Nat.le_of_ble_eq_true rfl)
  rw [lg_entry_eq]
  generalize (lg_sl ([.ref x, .int slot, .int n]) ++ List.replicate (4 - (lg_sl ([.ref x, .int slot, .int n])).length) Slot.unset).toArray = ls at hl ⊢
  have hl : lv_has ls 4 [(0, .ref x), (1, .int slot), (2, .int n)] := hl
  refine lv_iload_n hx hb dX6_rest_0 rfl (lv_at hl 1 rfl) ?_
  refine zz_ci (WC := []) (TC := []) (WR := [(x, .inr (6, [.ref tx0, .ref nb, .ref tb, .ref ib, .ref ah, .ref tp, .ref rd, .ref sh, .ref sl, .ref wt, .int 0, .int 0, .int 0, .int 0, .int 0])), (sl, .inl (ksl, 5, .inr (.inr (.inr (.inr slf))))), (o0, .inr (3, [.int 0, .int 0, .ref oa0, .ref ob0])), (o1, .inr (3, [.int 0, .int 0, .ref oa1, .ref ob1])), (o2, .inr (3, [.int 0, .int 0, .ref oa2, .ref ob2])), (o3, .inr (3, [.int 0, .int 0, .ref oa3, .ref ob3])), (o4, .inr (3, [.int 0, .int 0, .ref oa4, .ref ob4]))]) (TR := [(ksl, .object RX3)]) (k := 0) (n := 0) Z [] [0, 1, 2, 3, 4, 5, 6] [] [0] rfl rfl (by decide +kernel) (by decide +kernel) (by decide +kernel) rfl rfl (fun Zc => va_runS (As := [.int slot]) (rest := []) X (c_isSlot l D slot s.heap.size) (va_cwS 1 hts gX6_rest_X6_isSlot rfl rfl rfl zh_X6_isSlot ⟨Nat.le_of_ble_eq_true rfl, Nat.le_of_ble_eq_true rfl⟩) (zz_pS Zc) rfl rfl hl.1 rfl (lv_room (Nat.le_of_ble_eq_true rfl)) dX6_rest_1 ⟨Nat.le_of_ble_eq_true rfl, Nat.le_of_ble_eq_true rfl⟩) rfl rfl (fun r3 u1 H1 locs2 hw2 Z3 => ?_)
  clear Z
  subst r3
  have Z4 : zz_S D A s [(x, .inr (6, [.ref tx0, .ref nb, .ref tb, .ref ib, .ref ah, .ref tp, .ref rd, .ref sh, .ref sl, .ref wt, .int 0, .int 0, .int 0, .int 0, .int 0])), (sl, .inl (ksl, 5, .inr (.inr (.inr (.inr slf))))), (o0, .inr (3, [.int 0, .int 0, .ref oa0, .ref ob0])), (o1, .inr (3, [.int 0, .int 0, .ref oa1, .ref ob1])), (o2, .inr (3, [.int 0, .int 0, .ref oa2, .ref ob2])), (o3, .inr (3, [.int 0, .int 0, .ref oa3, .ref ob3])), (o4, .inr (3, [.int 0, .int 0, .ref oa4, .ref ob4]))] [(ksl, .object RX3)] H1 locs2 := Z3
  clear Z3
  by_cases w4 : 0 ≤ slot ∧ slot ≤ 4
  · obtain ⟨j, hj, e5⟩ := zz_rng 4 w4 (by decide)
    rcases (show j = 0 ∨ j = 1 ∨ j = 2 ∨ j = 3 ∨ j = 4 by omega) with rfl | rfl | rfl | rfl | rfl
    · have e5 : slot = 0 := e5
      subst e5
      refine zz_v (v := 1) (by decide) ?_
      refine lv_if_ne (tgt := 10) hx hb dX6_rest_4 (by decide) (fun _ => ?_) (fun h => absurd h (by decide))
      refine lv_aload_n hx hb dX6_rest_10 rfl (lv_at hl 0 rfl) ?_
      refine zz_get X Z4 0 rfl rfl (fun w h => List.mem_cons_of_mem _ (List.mem_append_left _ (List.mem_append_right _ h))) 8 rfl (zz_m 2 rfl) rfl dX6_rest_11 ?_
      refine lv_iload_n hx hb dX6_rest_14 rfl (lv_at hl 1 rfl) ?_
      refine zz_ald X Z4 1 0 rfl rfl (zz_in 0 5 rfl) (v := .ref o0) aslf_0 dX6_rest_15 ?_
      refine lv_iconst (v := 3) hx hb dX6_rest_16 (by decide) ?_
      refine zz_ci (WC := [(o0, .inr (3, [.int 0, .int 0, .ref oa0, .ref ob0]))]) (TC := []) (WR := [(x, .inr (6, [.ref tx0, .ref nb, .ref tb, .ref ib, .ref ah, .ref tp, .ref rd, .ref sh, .ref sl, .ref wt, .int 0, .int 0, .int 0, .int 0, .int 0])), (sl, .inl (ksl, 5, .inr (.inr (.inr (.inr slf))))), (o1, .inr (3, [.int 0, .int 0, .ref oa1, .ref ob1])), (o2, .inr (3, [.int 0, .int 0, .ref oa2, .ref ob2])), (o3, .inr (3, [.int 0, .int 0, .ref oa3, .ref ob3])), (o4, .inr (3, [.int 0, .int 0, .ref oa4, .ref ob4]))]) (TR := [(ksl, .object RX3)]) (k := 0) (n := 0) Z4 [2] [0, 1, 3, 4, 5, 6] [] [0] rfl rfl (by decide +kernel) (by decide +kernel) (by decide +kernel) rfl rfl (fun Zc => va_runV (As := [.int 3]) (rest := []) X (c_refuses l D o0 0 oa0 ob0 3 H1.size) (cwV 1 hts gX6_rest_X3_refuses rfl rfl rfl ⟨rfl, zh_X3_refuses⟩ ⟨Nat.le_of_ble_eq_true rfl, Nat.le_of_ble_eq_true rfl⟩) (zz_pV (ci := 3) Zc 0 rfl rfl) rfl rfl hl.1 rfl (lv_room (Nat.le_of_ble_eq_true rfl)) dX6_rest_17 ⟨Nat.le_of_ble_eq_true rfl, Nat.le_of_ble_eq_true rfl⟩) rfl rfl (fun r8 u6 H5 locs6 hw7 Z7 => ?_)
      clear Z4
      have hw7 : r8 = (-1000000011) := hw7.trans (by decide)
      subst r8
      have Z8 : zz_S D A s [(x, .inr (6, [.ref tx0, .ref nb, .ref tb, .ref ib, .ref ah, .ref tp, .ref rd, .ref sh, .ref sl, .ref wt, .int 0, .int 0, .int 0, .int 0, .int 0])), (sl, .inl (ksl, 5, .inr (.inr (.inr (.inr slf))))), (o1, .inr (3, [.int 0, .int 0, .ref oa1, .ref ob1])), (o2, .inr (3, [.int 0, .int 0, .ref oa2, .ref ob2])), (o3, .inr (3, [.int 0, .int 0, .ref oa3, .ref ob3])), (o4, .inr (3, [.int 0, .int 0, .ref oa4, .ref ob4])), (o0, .inr (3, [.int 0, .int 0, .ref oa0, .ref ob0]))] [(ksl, .object RX3)] H5 locs6 := Z7
      clear Z7
      refine lv_istore_n (lv' := [(3, .int (-1000000011)), (0, .ref x), (1, .int 0), (2, .int n)]) hx hb dX6_rest_20 rfl hl (by decide) rfl (fun ls9 hl10 => ?_)
      clear hl
      refine lv_iload_n hx hb dX6_rest_21 rfl (lv_at hl10 0 rfl) ?_
      refine lv_if_eq (tgt := 27) hx hb dX6_rest_22 (by decide) (fun h => absurd h (by decide)) (fun _ => ?_)
      refine lv_iload_n hx hb dX6_rest_25 rfl (lv_at hl10 0 rfl) ?_
      exact zz_iret X hr hlk Z8 () (by simp [sp_sl]) [] [] (by decide +kernel) rfl rfl dX6_rest_26
    · have e5 : slot = 1 := e5
      subst e5
      refine zz_v (v := 1) (by decide) ?_
      refine lv_if_ne (tgt := 10) hx hb dX6_rest_4 (by decide) (fun _ => ?_) (fun h => absurd h (by decide))
      refine lv_aload_n hx hb dX6_rest_10 rfl (lv_at hl 0 rfl) ?_
      refine zz_get X Z4 0 rfl rfl (fun w h => List.mem_cons_of_mem _ (List.mem_append_left _ (List.mem_append_right _ h))) 8 rfl (zz_m 2 rfl) rfl dX6_rest_11 ?_
      refine lv_iload_n hx hb dX6_rest_14 rfl (lv_at hl 1 rfl) ?_
      refine zz_ald X Z4 1 0 rfl rfl (zz_in 1 5 rfl) (v := .ref o1) aslf_1 dX6_rest_15 ?_
      refine lv_iconst (v := 3) hx hb dX6_rest_16 (by decide) ?_
      refine zz_ci (WC := [(o1, .inr (3, [.int 0, .int 0, .ref oa1, .ref ob1]))]) (TC := []) (WR := [(x, .inr (6, [.ref tx0, .ref nb, .ref tb, .ref ib, .ref ah, .ref tp, .ref rd, .ref sh, .ref sl, .ref wt, .int 0, .int 0, .int 0, .int 0, .int 0])), (sl, .inl (ksl, 5, .inr (.inr (.inr (.inr slf))))), (o0, .inr (3, [.int 0, .int 0, .ref oa0, .ref ob0])), (o2, .inr (3, [.int 0, .int 0, .ref oa2, .ref ob2])), (o3, .inr (3, [.int 0, .int 0, .ref oa3, .ref ob3])), (o4, .inr (3, [.int 0, .int 0, .ref oa4, .ref ob4]))]) (TR := [(ksl, .object RX3)]) (k := 0) (n := 0) Z4 [3] [0, 1, 2, 4, 5, 6] [] [0] rfl rfl (by decide +kernel) (by decide +kernel) (by decide +kernel) rfl rfl (fun Zc => va_runV (As := [.int 3]) (rest := []) X (c_refuses l D o1 0 oa1 ob1 3 H1.size) (cwV 1 hts gX6_rest_X3_refuses rfl rfl rfl ⟨rfl, zh_X3_refuses⟩ ⟨Nat.le_of_ble_eq_true rfl, Nat.le_of_ble_eq_true rfl⟩) (zz_pV (ci := 3) Zc 0 rfl rfl) rfl rfl hl.1 rfl (lv_room (Nat.le_of_ble_eq_true rfl)) dX6_rest_17 ⟨Nat.le_of_ble_eq_true rfl, Nat.le_of_ble_eq_true rfl⟩) rfl rfl (fun r11 u9 H11 locs12 hw10 Z13 => ?_)
      clear Z4
      have hw10 : r11 = (-1000000011) := hw10.trans (by decide)
      subst r11
      have Z14 : zz_S D A s [(x, .inr (6, [.ref tx0, .ref nb, .ref tb, .ref ib, .ref ah, .ref tp, .ref rd, .ref sh, .ref sl, .ref wt, .int 0, .int 0, .int 0, .int 0, .int 0])), (sl, .inl (ksl, 5, .inr (.inr (.inr (.inr slf))))), (o0, .inr (3, [.int 0, .int 0, .ref oa0, .ref ob0])), (o2, .inr (3, [.int 0, .int 0, .ref oa2, .ref ob2])), (o3, .inr (3, [.int 0, .int 0, .ref oa3, .ref ob3])), (o4, .inr (3, [.int 0, .int 0, .ref oa4, .ref ob4])), (o1, .inr (3, [.int 0, .int 0, .ref oa1, .ref ob1]))] [(ksl, .object RX3)] H11 locs12 := Z13
      clear Z13
      refine lv_istore_n (lv' := [(3, .int (-1000000011)), (0, .ref x), (1, .int 1), (2, .int n)]) hx hb dX6_rest_20 rfl hl (by decide) rfl (fun ls15 hl16 => ?_)
      clear hl
      refine lv_iload_n hx hb dX6_rest_21 rfl (lv_at hl16 0 rfl) ?_
      refine lv_if_eq (tgt := 27) hx hb dX6_rest_22 (by decide) (fun h => absurd h (by decide)) (fun _ => ?_)
      refine lv_iload_n hx hb dX6_rest_25 rfl (lv_at hl16 0 rfl) ?_
      exact zz_iret X hr hlk Z14 () (by simp [sp_sl]) [] [] (by decide +kernel) rfl rfl dX6_rest_26
    · have e5 : slot = 2 := e5
      subst e5
      refine zz_v (v := 1) (by decide) ?_
      refine lv_if_ne (tgt := 10) hx hb dX6_rest_4 (by decide) (fun _ => ?_) (fun h => absurd h (by decide))
      refine lv_aload_n hx hb dX6_rest_10 rfl (lv_at hl 0 rfl) ?_
      refine zz_get X Z4 0 rfl rfl (fun w h => List.mem_cons_of_mem _ (List.mem_append_left _ (List.mem_append_right _ h))) 8 rfl (zz_m 2 rfl) rfl dX6_rest_11 ?_
      refine lv_iload_n hx hb dX6_rest_14 rfl (lv_at hl 1 rfl) ?_
      refine zz_ald X Z4 1 0 rfl rfl (zz_in 2 5 rfl) (v := .ref o2) aslf_2 dX6_rest_15 ?_
      refine lv_iconst (v := 3) hx hb dX6_rest_16 (by decide) ?_
      refine zz_ci (WC := [(o2, .inr (3, [.int 0, .int 0, .ref oa2, .ref ob2]))]) (TC := []) (WR := [(x, .inr (6, [.ref tx0, .ref nb, .ref tb, .ref ib, .ref ah, .ref tp, .ref rd, .ref sh, .ref sl, .ref wt, .int 0, .int 0, .int 0, .int 0, .int 0])), (sl, .inl (ksl, 5, .inr (.inr (.inr (.inr slf))))), (o0, .inr (3, [.int 0, .int 0, .ref oa0, .ref ob0])), (o1, .inr (3, [.int 0, .int 0, .ref oa1, .ref ob1])), (o3, .inr (3, [.int 0, .int 0, .ref oa3, .ref ob3])), (o4, .inr (3, [.int 0, .int 0, .ref oa4, .ref ob4]))]) (TR := [(ksl, .object RX3)]) (k := 0) (n := 0) Z4 [4] [0, 1, 2, 3, 5, 6] [] [0] rfl rfl (by decide +kernel) (by decide +kernel) (by decide +kernel) rfl rfl (fun Zc => va_runV (As := [.int 3]) (rest := []) X (c_refuses l D o2 0 oa2 ob2 3 H1.size) (cwV 1 hts gX6_rest_X3_refuses rfl rfl rfl ⟨rfl, zh_X3_refuses⟩ ⟨Nat.le_of_ble_eq_true rfl, Nat.le_of_ble_eq_true rfl⟩) (zz_pV (ci := 3) Zc 0 rfl rfl) rfl rfl hl.1 rfl (lv_room (Nat.le_of_ble_eq_true rfl)) dX6_rest_17 ⟨Nat.le_of_ble_eq_true rfl, Nat.le_of_ble_eq_true rfl⟩) rfl rfl (fun r14 u12 H17 locs18 hw13 Z19 => ?_)
      clear Z4
      have hw13 : r14 = (-1000000011) := hw13.trans (by decide)
      subst r14
      have Z20 : zz_S D A s [(x, .inr (6, [.ref tx0, .ref nb, .ref tb, .ref ib, .ref ah, .ref tp, .ref rd, .ref sh, .ref sl, .ref wt, .int 0, .int 0, .int 0, .int 0, .int 0])), (sl, .inl (ksl, 5, .inr (.inr (.inr (.inr slf))))), (o0, .inr (3, [.int 0, .int 0, .ref oa0, .ref ob0])), (o1, .inr (3, [.int 0, .int 0, .ref oa1, .ref ob1])), (o3, .inr (3, [.int 0, .int 0, .ref oa3, .ref ob3])), (o4, .inr (3, [.int 0, .int 0, .ref oa4, .ref ob4])), (o2, .inr (3, [.int 0, .int 0, .ref oa2, .ref ob2]))] [(ksl, .object RX3)] H17 locs18 := Z19
      clear Z19
      refine lv_istore_n (lv' := [(3, .int (-1000000011)), (0, .ref x), (1, .int 2), (2, .int n)]) hx hb dX6_rest_20 rfl hl (by decide) rfl (fun ls21 hl22 => ?_)
      clear hl
      refine lv_iload_n hx hb dX6_rest_21 rfl (lv_at hl22 0 rfl) ?_
      refine lv_if_eq (tgt := 27) hx hb dX6_rest_22 (by decide) (fun h => absurd h (by decide)) (fun _ => ?_)
      refine lv_iload_n hx hb dX6_rest_25 rfl (lv_at hl22 0 rfl) ?_
      exact zz_iret X hr hlk Z20 () (by simp [sp_sl]) [] [] (by decide +kernel) rfl rfl dX6_rest_26
    · have e5 : slot = 3 := e5
      subst e5
      refine zz_v (v := 1) (by decide) ?_
      refine lv_if_ne (tgt := 10) hx hb dX6_rest_4 (by decide) (fun _ => ?_) (fun h => absurd h (by decide))
      refine lv_aload_n hx hb dX6_rest_10 rfl (lv_at hl 0 rfl) ?_
      refine zz_get X Z4 0 rfl rfl (fun w h => List.mem_cons_of_mem _ (List.mem_append_left _ (List.mem_append_right _ h))) 8 rfl (zz_m 2 rfl) rfl dX6_rest_11 ?_
      refine lv_iload_n hx hb dX6_rest_14 rfl (lv_at hl 1 rfl) ?_
      refine zz_ald X Z4 1 0 rfl rfl (zz_in 3 5 rfl) (v := .ref o3) aslf_3 dX6_rest_15 ?_
      refine lv_iconst (v := 3) hx hb dX6_rest_16 (by decide) ?_
      refine zz_ci (WC := [(o3, .inr (3, [.int 0, .int 0, .ref oa3, .ref ob3]))]) (TC := []) (WR := [(x, .inr (6, [.ref tx0, .ref nb, .ref tb, .ref ib, .ref ah, .ref tp, .ref rd, .ref sh, .ref sl, .ref wt, .int 0, .int 0, .int 0, .int 0, .int 0])), (sl, .inl (ksl, 5, .inr (.inr (.inr (.inr slf))))), (o0, .inr (3, [.int 0, .int 0, .ref oa0, .ref ob0])), (o1, .inr (3, [.int 0, .int 0, .ref oa1, .ref ob1])), (o2, .inr (3, [.int 0, .int 0, .ref oa2, .ref ob2])), (o4, .inr (3, [.int 0, .int 0, .ref oa4, .ref ob4]))]) (TR := [(ksl, .object RX3)]) (k := 0) (n := 0) Z4 [5] [0, 1, 2, 3, 4, 6] [] [0] rfl rfl (by decide +kernel) (by decide +kernel) (by decide +kernel) rfl rfl (fun Zc => va_runV (As := [.int 3]) (rest := []) X (c_refuses l D o3 0 oa3 ob3 3 H1.size) (cwV 1 hts gX6_rest_X3_refuses rfl rfl rfl ⟨rfl, zh_X3_refuses⟩ ⟨Nat.le_of_ble_eq_true rfl, Nat.le_of_ble_eq_true rfl⟩) (zz_pV (ci := 3) Zc 0 rfl rfl) rfl rfl hl.1 rfl (lv_room (Nat.le_of_ble_eq_true rfl)) dX6_rest_17 ⟨Nat.le_of_ble_eq_true rfl, Nat.le_of_ble_eq_true rfl⟩) rfl rfl (fun r17 u15 H23 locs24 hw16 Z25 => ?_)
      clear Z4
      have hw16 : r17 = (-1000000011) := hw16.trans (by decide)
      subst r17
      have Z26 : zz_S D A s [(x, .inr (6, [.ref tx0, .ref nb, .ref tb, .ref ib, .ref ah, .ref tp, .ref rd, .ref sh, .ref sl, .ref wt, .int 0, .int 0, .int 0, .int 0, .int 0])), (sl, .inl (ksl, 5, .inr (.inr (.inr (.inr slf))))), (o0, .inr (3, [.int 0, .int 0, .ref oa0, .ref ob0])), (o1, .inr (3, [.int 0, .int 0, .ref oa1, .ref ob1])), (o2, .inr (3, [.int 0, .int 0, .ref oa2, .ref ob2])), (o4, .inr (3, [.int 0, .int 0, .ref oa4, .ref ob4])), (o3, .inr (3, [.int 0, .int 0, .ref oa3, .ref ob3]))] [(ksl, .object RX3)] H23 locs24 := Z25
      clear Z25
      refine lv_istore_n (lv' := [(3, .int (-1000000011)), (0, .ref x), (1, .int 3), (2, .int n)]) hx hb dX6_rest_20 rfl hl (by decide) rfl (fun ls27 hl28 => ?_)
      clear hl
      refine lv_iload_n hx hb dX6_rest_21 rfl (lv_at hl28 0 rfl) ?_
      refine lv_if_eq (tgt := 27) hx hb dX6_rest_22 (by decide) (fun h => absurd h (by decide)) (fun _ => ?_)
      refine lv_iload_n hx hb dX6_rest_25 rfl (lv_at hl28 0 rfl) ?_
      exact zz_iret X hr hlk Z26 () (by simp [sp_sl]) [] [] (by decide +kernel) rfl rfl dX6_rest_26
    · have e5 : slot = 4 := e5
      subst e5
      refine zz_v (v := 1) (by decide) ?_
      refine lv_if_ne (tgt := 10) hx hb dX6_rest_4 (by decide) (fun _ => ?_) (fun h => absurd h (by decide))
      refine lv_aload_n hx hb dX6_rest_10 rfl (lv_at hl 0 rfl) ?_
      refine zz_get X Z4 0 rfl rfl (fun w h => List.mem_cons_of_mem _ (List.mem_append_left _ (List.mem_append_right _ h))) 8 rfl (zz_m 2 rfl) rfl dX6_rest_11 ?_
      refine lv_iload_n hx hb dX6_rest_14 rfl (lv_at hl 1 rfl) ?_
      refine zz_ald X Z4 1 0 rfl rfl (zz_in 4 5 rfl) (v := .ref o4) aslf_4 dX6_rest_15 ?_
      refine lv_iconst (v := 3) hx hb dX6_rest_16 (by decide) ?_
      refine zz_ci (WC := [(o4, .inr (3, [.int 0, .int 0, .ref oa4, .ref ob4]))]) (TC := []) (WR := [(x, .inr (6, [.ref tx0, .ref nb, .ref tb, .ref ib, .ref ah, .ref tp, .ref rd, .ref sh, .ref sl, .ref wt, .int 0, .int 0, .int 0, .int 0, .int 0])), (sl, .inl (ksl, 5, .inr (.inr (.inr (.inr slf))))), (o0, .inr (3, [.int 0, .int 0, .ref oa0, .ref ob0])), (o1, .inr (3, [.int 0, .int 0, .ref oa1, .ref ob1])), (o2, .inr (3, [.int 0, .int 0, .ref oa2, .ref ob2])), (o3, .inr (3, [.int 0, .int 0, .ref oa3, .ref ob3]))]) (TR := [(ksl, .object RX3)]) (k := 0) (n := 0) Z4 [6] [0, 1, 2, 3, 4, 5] [] [0] rfl rfl (by decide +kernel) (by decide +kernel) (by decide +kernel) rfl rfl (fun Zc => va_runV (As := [.int 3]) (rest := []) X (c_refuses l D o4 0 oa4 ob4 3 H1.size) (cwV 1 hts gX6_rest_X3_refuses rfl rfl rfl ⟨rfl, zh_X3_refuses⟩ ⟨Nat.le_of_ble_eq_true rfl, Nat.le_of_ble_eq_true rfl⟩) (zz_pV (ci := 3) Zc 0 rfl rfl) rfl rfl hl.1 rfl (lv_room (Nat.le_of_ble_eq_true rfl)) dX6_rest_17 ⟨Nat.le_of_ble_eq_true rfl, Nat.le_of_ble_eq_true rfl⟩) rfl rfl (fun r20 u18 H29 locs30 hw19 Z31 => ?_)
      clear Z4
      have hw19 : r20 = (-1000000011) := hw19.trans (by decide)
      subst r20
      have Z32 : zz_S D A s [(x, .inr (6, [.ref tx0, .ref nb, .ref tb, .ref ib, .ref ah, .ref tp, .ref rd, .ref sh, .ref sl, .ref wt, .int 0, .int 0, .int 0, .int 0, .int 0])), (sl, .inl (ksl, 5, .inr (.inr (.inr (.inr slf))))), (o0, .inr (3, [.int 0, .int 0, .ref oa0, .ref ob0])), (o1, .inr (3, [.int 0, .int 0, .ref oa1, .ref ob1])), (o2, .inr (3, [.int 0, .int 0, .ref oa2, .ref ob2])), (o3, .inr (3, [.int 0, .int 0, .ref oa3, .ref ob3])), (o4, .inr (3, [.int 0, .int 0, .ref oa4, .ref ob4]))] [(ksl, .object RX3)] H29 locs30 := Z31
      clear Z31
      refine lv_istore_n (lv' := [(3, .int (-1000000011)), (0, .ref x), (1, .int 4), (2, .int n)]) hx hb dX6_rest_20 rfl hl (by decide) rfl (fun ls33 hl34 => ?_)
      clear hl
      refine lv_iload_n hx hb dX6_rest_21 rfl (lv_at hl34 0 rfl) ?_
      refine lv_if_eq (tgt := 27) hx hb dX6_rest_22 (by decide) (fun h => absurd h (by decide)) (fun _ => ?_)
      refine lv_iload_n hx hb dX6_rest_25 rfl (lv_at hl34 0 rfl) ?_
      exact zz_iret X hr hlk Z32 () (by simp [sp_sl]) [] [] (by decide +kernel) rfl rfl dX6_rest_26
  · refine zz_v (v := 0) (zz_wiF w4) ?_
    refine lv_if_ne (tgt := 10) hx hb dX6_rest_4 (by decide) (fun h => absurd (by decide) h) (fun _ => ?_)
    refine lv_ldc (v := (-1000000001)) hx hb hown (hts _ (zz_m 1 rfl)) dX6_rest_7 ?_
    exact zz_iret X hr hlk Z4 () (by simp [sp_sl, w4]) [] [] (by decide +kernel) rfl rfl dX6_rest_9

set_option maxHeartbeats 4000000 in
set_option maxRecDepth 100000 in
theorem c6_lay (l : Launch) (D : va_G) (x : Nat) (tx0 : Nat) (nb : Nat) (tb : Nat) (ib : Nat) (ah : Nat) (tp : Nat) (rd : Nat) (sh : Nat) (sl : Nat) (wt : Nat) (ntx : Nat) (nst : Nat) (nct : Nat) (ksl : ClassId) (slf : (Nat → Option Nat)) (o0 : Nat) (o1 : Nat) (o2 : Nat) (o3 : Nat) (o4 : Nat) (oa0 : Nat) (oa1 : Nat) (oa2 : Nat) (oa3 : Nat) (oa4 : Nat) (ob0 : Nat) (ob1 : Nat) (ob2 : Nat) (ob3 : Nat) (ob4 : Nat) (ksh : ClassId) (shf : (Nat → Option Nat)) (h0 : Nat) (h1 : Nat) (h2 : Nat) (h3 : Nat) (hv0 : Nat) (hv1 : Nat) (hv2 : Nat) (hv3 : Nat) (slot : Int32) (thing : Int32) (k : Int32) (aslf_0 : va_rf (slf 0) = .ref o0) (aslf_1 : va_rf (slf 1) = .ref o1) (aslf_2 : va_rf (slf 2) = .ref o2) (aslf_3 : va_rf (slf 3) = .ref o3) (aslf_4 : va_rf (slf 4) = .ref o4) (ashf_0 : va_rf (shf 0) = .ref h0) (ashf_1 : va_rf (shf 1) = .ref h1) (ashf_2 : va_rf (shf 2) = .ref h2) (ashf_3 : va_rf (shf 3) = .ref h3) : zz_MI l yX6_lay wsX6_lay 2 43 0 0 D [.ref x, .int slot, .int thing, .int k] [(x, .inr (6, [.ref tx0, .ref nb, .ref tb, .ref ib, .ref ah, .ref tp, .ref rd, .ref sh, .ref sl, .ref wt, .int 0, .int 0, .int 0, .int 0, .int 0])), (nb, .inr (0, [.ref ntx, .ref nst, .ref nct, .int 0, .int 0, .int 3, .int 0, .int 0, .int 10, .int 0, .int 0, .int 0, .int 0, .int 1])), (sl, .inl (ksl, 5, .inr (.inr (.inr (.inr slf))))), (o0, .inr (3, [.int 0, .int 0, .ref oa0, .ref ob0])), (o1, .inr (3, [.int 0, .int 0, .ref oa1, .ref ob1])), (o2, .inr (3, [.int 0, .int 0, .ref oa2, .ref ob2])), (o3, .inr (3, [.int 0, .int 0, .ref oa3, .ref ob3])), (o4, .inr (3, [.int 0, .int 0, .ref oa4, .ref ob4])), (sh, .inl (ksh, 4, .inr (.inr (.inr (.inr shf))))), (h0, .inr (2, [.int (-1), .int 0, .ref hv0])), (h1, .inr (2, [.int (-1), .int 0, .ref hv1])), (h2, .inr (2, [.int (-1), .int 0, .ref hv2])), (h3, .inr (2, [.int (-1), .int 0, .ref hv3]))] [(ksl, .object RX3), (ksh, .object RX2)] (fun (r : Int32) (u : Unit) => r = sp_lay slot thing k) (fun (u : Unit) => []) (fun (u : Unit) => []) := by
  intro sz
  refine Met.ofW (cc := cX6_lay) (maxL := 6) (ret := (some .int)) (by decide) rfl ?_
  intro p e s m args below meth c s₁ B hml hv
  obtain ⟨rfl, hC⟩ := hv
  have hx := B.exec
  have hb := B.bytes
  have hr := B.returns
  have hts := atoms_spec (ws := wsX6_lay) B.pre
  have hown : s.vm.findClass RX6 = some m.cls := findClass_of_methodNamed B.named
  have hlk := B.notSynchronized
  have X : CallFix p m c cX6_lay 6 s _ wsX6_lay RX6 := ⟨hx, hb, hml, hown, hts⟩
  have Z := zz_enter hC
  generalize va_A [(x, .inr (6, [.ref tx0, .ref nb, .ref tb, .ref ib, .ref ah, .ref tp, .ref rd, .ref sh, .ref sl, .ref wt, .int 0, .int 0, .int 0, .int 0, .int 0])), (nb, .inr (0, [.ref ntx, .ref nst, .ref nct, .int 0, .int 0, .int 3, .int 0, .int 0, .int 10, .int 0, .int 0, .int 0, .int 0, .int 1])), (sl, .inl (ksl, 5, .inr (.inr (.inr (.inr slf))))), (o0, .inr (3, [.int 0, .int 0, .ref oa0, .ref ob0])), (o1, .inr (3, [.int 0, .int 0, .ref oa1, .ref ob1])), (o2, .inr (3, [.int 0, .int 0, .ref oa2, .ref ob2])), (o3, .inr (3, [.int 0, .int 0, .ref oa3, .ref ob3])), (o4, .inr (3, [.int 0, .int 0, .ref oa4, .ref ob4])), (sh, .inl (ksh, 4, .inr (.inr (.inr (.inr shf))))), (h0, .inr (2, [.int (-1), .int 0, .ref hv0])), (h1, .inr (2, [.int (-1), .int 0, .ref hv1])), (h2, .inr (2, [.int (-1), .int 0, .ref hv2])), (h3, .inr (2, [.int (-1), .int 0, .ref hv3]))] sz = A at Z ⊢
  have hl := lv_entry ([.ref x, .int slot, .int thing, .int k]) (n := 6) (Nat.le_of_ble_eq_true rfl)
  rw [lg_entry_eq]
  generalize (lg_sl ([.ref x, .int slot, .int thing, .int k]) ++ List.replicate (6 - (lg_sl ([.ref x, .int slot, .int thing, .int k])).length) Slot.unset).toArray = ls at hl ⊢
  have hl : lv_has ls 6 [(0, .ref x), (1, .int slot), (2, .int thing), (3, .int k)] := hl
  refine lv_iload_n hx hb dX6_lay_0 rfl (lv_at hl 1 rfl) ?_
  refine zz_ci (WC := []) (TC := []) (WR := [(x, .inr (6, [.ref tx0, .ref nb, .ref tb, .ref ib, .ref ah, .ref tp, .ref rd, .ref sh, .ref sl, .ref wt, .int 0, .int 0, .int 0, .int 0, .int 0])), (nb, .inr (0, [.ref ntx, .ref nst, .ref nct, .int 0, .int 0, .int 3, .int 0, .int 0, .int 10, .int 0, .int 0, .int 0, .int 0, .int 1])), (sl, .inl (ksl, 5, .inr (.inr (.inr (.inr slf))))), (o0, .inr (3, [.int 0, .int 0, .ref oa0, .ref ob0])), (o1, .inr (3, [.int 0, .int 0, .ref oa1, .ref ob1])), (o2, .inr (3, [.int 0, .int 0, .ref oa2, .ref ob2])), (o3, .inr (3, [.int 0, .int 0, .ref oa3, .ref ob3])), (o4, .inr (3, [.int 0, .int 0, .ref oa4, .ref ob4])), (sh, .inl (ksh, 4, .inr (.inr (.inr (.inr shf))))), (h0, .inr (2, [.int (-1), .int 0, .ref hv0])), (h1, .inr (2, [.int (-1), .int 0, .ref hv1])), (h2, .inr (2, [.int (-1), .int 0, .ref hv2])), (h3, .inr (2, [.int (-1), .int 0, .ref hv3]))]) (TR := [(ksl, .object RX3), (ksh, .object RX2)]) (k := 0) (n := 0) Z [] [0, 1, 2, 3, 4, 5, 6, 7, 8, 9, 10, 11, 12] [] [0, 1] rfl rfl (by decide +kernel) (by decide +kernel) (by decide +kernel) rfl rfl (fun Zc => va_runS (As := [.int slot]) (rest := []) X (c_isSlot l D slot s.heap.size) (va_cwS 1 hts gX6_lay_X6_isSlot rfl rfl rfl zh_X6_isSlot ⟨Nat.le_of_ble_eq_true rfl, Nat.le_of_ble_eq_true rfl⟩) (zz_pS Zc) rfl rfl hl.1 rfl (lv_room (Nat.le_of_ble_eq_true rfl)) dX6_lay_1 ⟨Nat.le_of_ble_eq_true rfl, Nat.le_of_ble_eq_true rfl⟩) rfl rfl (fun r3 u1 H1 locs2 hw2 Z3 => ?_)
  clear Z
  subst r3
  have Z4 : zz_S D A s [(x, .inr (6, [.ref tx0, .ref nb, .ref tb, .ref ib, .ref ah, .ref tp, .ref rd, .ref sh, .ref sl, .ref wt, .int 0, .int 0, .int 0, .int 0, .int 0])), (nb, .inr (0, [.ref ntx, .ref nst, .ref nct, .int 0, .int 0, .int 3, .int 0, .int 0, .int 10, .int 0, .int 0, .int 0, .int 0, .int 1])), (sl, .inl (ksl, 5, .inr (.inr (.inr (.inr slf))))), (o0, .inr (3, [.int 0, .int 0, .ref oa0, .ref ob0])), (o1, .inr (3, [.int 0, .int 0, .ref oa1, .ref ob1])), (o2, .inr (3, [.int 0, .int 0, .ref oa2, .ref ob2])), (o3, .inr (3, [.int 0, .int 0, .ref oa3, .ref ob3])), (o4, .inr (3, [.int 0, .int 0, .ref oa4, .ref ob4])), (sh, .inl (ksh, 4, .inr (.inr (.inr (.inr shf))))), (h0, .inr (2, [.int (-1), .int 0, .ref hv0])), (h1, .inr (2, [.int (-1), .int 0, .ref hv1])), (h2, .inr (2, [.int (-1), .int 0, .ref hv2])), (h3, .inr (2, [.int (-1), .int 0, .ref hv3]))] [(ksl, .object RX3), (ksh, .object RX2)] H1 locs2 := Z3
  clear Z3
  by_cases w4 : 0 ≤ slot ∧ slot ≤ 4
  · obtain ⟨j, hj, e5⟩ := zz_rng 4 w4 (by decide)
    rcases (show j = 0 ∨ j = 1 ∨ j = 2 ∨ j = 3 ∨ j = 4 by omega) with rfl | rfl | rfl | rfl | rfl
    · have e5 : slot = 0 := e5
      subst e5
      refine zz_v (v := 1) (by decide) ?_
      refine lv_if_eq (tgt := 16) hx hb dX6_lay_4 (by decide) (fun h => absurd h (by decide)) (fun _ => ?_)
      refine lv_iload_n hx hb dX6_lay_7 rfl (lv_at hl 2 rfl) ?_
      refine lv_iconst (v := 0) hx hb dX6_lay_8 (by decide) ?_
      refine lv_iconst (v := 3) hx hb dX6_lay_9 (by decide) ?_
      refine zz_ci (WC := []) (TC := []) (WR := [(x, .inr (6, [.ref tx0, .ref nb, .ref tb, .ref ib, .ref ah, .ref tp, .ref rd, .ref sh, .ref sl, .ref wt, .int 0, .int 0, .int 0, .int 0, .int 0])), (nb, .inr (0, [.ref ntx, .ref nst, .ref nct, .int 0, .int 0, .int 3, .int 0, .int 0, .int 10, .int 0, .int 0, .int 0, .int 0, .int 1])), (sl, .inl (ksl, 5, .inr (.inr (.inr (.inr slf))))), (o0, .inr (3, [.int 0, .int 0, .ref oa0, .ref ob0])), (o1, .inr (3, [.int 0, .int 0, .ref oa1, .ref ob1])), (o2, .inr (3, [.int 0, .int 0, .ref oa2, .ref ob2])), (o3, .inr (3, [.int 0, .int 0, .ref oa3, .ref ob3])), (o4, .inr (3, [.int 0, .int 0, .ref oa4, .ref ob4])), (sh, .inl (ksh, 4, .inr (.inr (.inr (.inr shf))))), (h0, .inr (2, [.int (-1), .int 0, .ref hv0])), (h1, .inr (2, [.int (-1), .int 0, .ref hv1])), (h2, .inr (2, [.int (-1), .int 0, .ref hv2])), (h3, .inr (2, [.int (-1), .int 0, .ref hv3]))]) (TR := [(ksl, .object RX3), (ksh, .object RX2)]) (k := 0) (n := 0) Z4 [] [0, 1, 2, 3, 4, 5, 6, 7, 8, 9, 10, 11, 12] [] [0, 1] rfl rfl (by decide +kernel) (by decide +kernel) (by decide +kernel) rfl rfl (fun Zc => va_runS (As := [.int thing, .int 0, .int 3]) (rest := []) X (c_within l D thing 0 3 H1.size) (va_cwS 3 hts gX6_lay_X6_within rfl rfl rfl zh_X6_within ⟨Nat.le_of_ble_eq_true rfl, Nat.le_of_ble_eq_true rfl⟩) (zz_pS Zc) rfl rfl hl.1 rfl (lv_room (Nat.le_of_ble_eq_true rfl)) dX6_lay_10 ⟨Nat.le_of_ble_eq_true rfl, Nat.le_of_ble_eq_true rfl⟩) rfl rfl (fun r8 u6 H5 locs6 hw7 Z7 => ?_)
      clear Z4
      subst r8
      have Z8 : zz_S D A s [(x, .inr (6, [.ref tx0, .ref nb, .ref tb, .ref ib, .ref ah, .ref tp, .ref rd, .ref sh, .ref sl, .ref wt, .int 0, .int 0, .int 0, .int 0, .int 0])), (nb, .inr (0, [.ref ntx, .ref nst, .ref nct, .int 0, .int 0, .int 3, .int 0, .int 0, .int 10, .int 0, .int 0, .int 0, .int 0, .int 1])), (sl, .inl (ksl, 5, .inr (.inr (.inr (.inr slf))))), (o0, .inr (3, [.int 0, .int 0, .ref oa0, .ref ob0])), (o1, .inr (3, [.int 0, .int 0, .ref oa1, .ref ob1])), (o2, .inr (3, [.int 0, .int 0, .ref oa2, .ref ob2])), (o3, .inr (3, [.int 0, .int 0, .ref oa3, .ref ob3])), (o4, .inr (3, [.int 0, .int 0, .ref oa4, .ref ob4])), (sh, .inl (ksh, 4, .inr (.inr (.inr (.inr shf))))), (h0, .inr (2, [.int (-1), .int 0, .ref hv0])), (h1, .inr (2, [.int (-1), .int 0, .ref hv1])), (h2, .inr (2, [.int (-1), .int 0, .ref hv2])), (h3, .inr (2, [.int (-1), .int 0, .ref hv3]))] [(ksl, .object RX3), (ksh, .object RX2)] H5 locs6 := Z7
      clear Z7
      by_cases w9 : 0 ≤ thing ∧ thing ≤ 3
      · obtain ⟨j, hj, e10⟩ := zz_rng 3 w9 (by decide)
        rcases (show j = 0 ∨ j = 1 ∨ j = 2 ∨ j = 3 by omega) with rfl | rfl | rfl | rfl
        · have e10 : thing = 0 := e10
          subst e10
          refine zz_v (v := 1) (by decide) ?_
          refine lv_if_ne (tgt := 19) hx hb dX6_lay_13 (by decide) (fun _ => ?_) (fun h => absurd h (by decide))
          refine lv_aload_n hx hb dX6_lay_19 rfl (lv_at hl 0 rfl) ?_
          refine zz_get X Z8 0 rfl rfl (fun w h => List.mem_cons_of_mem _ (List.mem_append_left _ (List.mem_append_left _ (List.mem_append_left _ (List.mem_append_left _ (List.mem_append_right _ h)))))) 8 rfl (zz_m 2 rfl) rfl dX6_lay_20 ?_
          refine lv_iload_n hx hb dX6_lay_23 rfl (lv_at hl 1 rfl) ?_
          refine zz_ald X Z8 2 0 rfl rfl (zz_in 0 5 rfl) (v := .ref o0) aslf_0 dX6_lay_24 ?_
          refine lv_astore (lv' := [(4, .ref o0), (0, .ref x), (1, .int 0), (2, .int 0), (3, .int k)]) hx hb dX6_lay_25 hl (by decide) rfl (fun ls9 hl10 => ?_)
          clear hl
          refine lv_aload hx hb dX6_lay_27 (lv_at hl10 0 rfl) ?_
          refine zz_get X Z8 3 rfl rfl (fun w h => List.mem_cons_of_mem _ (List.mem_append_left _ (List.mem_append_left _ (List.mem_append_left _ (List.mem_append_right _ h))))) 0 rfl (zz_m 3 rfl) rfl dX6_lay_29 ?_
          refine lv_istore (lv' := [(5, .int 0), (4, .ref o0), (0, .ref x), (1, .int 0), (2, .int 0), (3, .int k)]) hx hb dX6_lay_32 hl10 (by decide) rfl (fun ls11 hl12 => ?_)
          clear hl10
          refine lv_iload_n hx hb dX6_lay_34 rfl (lv_at hl12 4 rfl) ?_
          refine lv_iconst (v := 1) hx hb dX6_lay_35 (by decide) ?_
          refine lv_icmp_ne (tgt := 70) hx hb dX6_lay_36 (by decide) (fun _ => ?_) (fun h => absurd h (by decide))
          refine lv_iload_n hx hb dX6_lay_70 rfl (lv_at hl12 4 rfl) ?_
          refine lv_iconst (v := 2) hx hb dX6_lay_71 (by decide) ?_
          refine lv_icmp_ne (tgt := 117) hx hb dX6_lay_72 (by decide) (fun _ => ?_) (fun h => absurd h (by decide))
          refine lv_iload_n hx hb dX6_lay_117 rfl (lv_at hl12 4 rfl) ?_
          refine lv_iconst (v := 3) hx hb dX6_lay_118 (by decide) ?_
          refine lv_icmp_ne (tgt := 128) hx hb dX6_lay_119 (by decide) (fun _ => ?_) (fun h => absurd h (by decide))
          refine lv_aload hx hb dX6_lay_128 (lv_at hl12 1 rfl) ?_
          refine lv_iload_n hx hb dX6_lay_130 rfl (lv_at hl12 4 rfl) ?_
          refine zz_put (WS' := [(x, .inr (6, [.ref tx0, .ref nb, .ref tb, .ref ib, .ref ah, .ref tp, .ref rd, .ref sh, .ref sl, .ref wt, .int 0, .int 0, .int 0, .int 0, .int 0])), (nb, .inr (0, [.ref ntx, .ref nst, .ref nct, .int 0, .int 0, .int 3, .int 0, .int 0, .int 10, .int 0, .int 0, .int 0, .int 0, .int 1])), (sl, .inl (ksl, 5, .inr (.inr (.inr (.inr slf))))), (o0, .inr (3, [.int 0, .int 0, .ref oa0, .ref ob0])), (o1, .inr (3, [.int 0, .int 0, .ref oa1, .ref ob1])), (o2, .inr (3, [.int 0, .int 0, .ref oa2, .ref ob2])), (o3, .inr (3, [.int 0, .int 0, .ref oa3, .ref ob3])), (o4, .inr (3, [.int 0, .int 0, .ref oa4, .ref ob4])), (sh, .inl (ksh, 4, .inr (.inr (.inr (.inr shf))))), (h0, .inr (2, [.int (-1), .int 0, .ref hv0])), (h1, .inr (2, [.int (-1), .int 0, .ref hv1])), (h2, .inr (2, [.int (-1), .int 0, .ref hv2])), (h3, .inr (2, [.int (-1), .int 0, .ref hv3]))]) X Z8 3 rfl rfl (fun w h => List.mem_cons_of_mem _ (List.mem_append_left _ (List.mem_append_left _ (List.mem_append_left _ (List.mem_append_right _ h))))) tyX3 tyX3_ok nmX3 0 rfl (zz_m 3 rfl) rfl rfl rfl rfl dX6_lay_131 rfl (fun H13 locs14 Z15 => ?_)
          clear Z8
          refine lv_iload hx hb dX6_lay_134 (lv_at hl12 0 rfl) ?_
          exact zz_iret X hr hlk Z15 () (by simp [sp_lay]) [] [] (by decide +kernel) rfl rfl dX6_lay_136
        · have e10 : thing = 1 := e10
          subst e10
          refine zz_v (v := 1) (by decide) ?_
          refine lv_if_ne (tgt := 19) hx hb dX6_lay_13 (by decide) (fun _ => ?_) (fun h => absurd h (by decide))
          refine lv_aload_n hx hb dX6_lay_19 rfl (lv_at hl 0 rfl) ?_
          refine zz_get X Z8 0 rfl rfl (fun w h => List.mem_cons_of_mem _ (List.mem_append_left _ (List.mem_append_left _ (List.mem_append_left _ (List.mem_append_left _ (List.mem_append_right _ h)))))) 8 rfl (zz_m 2 rfl) rfl dX6_lay_20 ?_
          refine lv_iload_n hx hb dX6_lay_23 rfl (lv_at hl 1 rfl) ?_
          refine zz_ald X Z8 2 0 rfl rfl (zz_in 0 5 rfl) (v := .ref o0) aslf_0 dX6_lay_24 ?_
          refine lv_astore (lv' := [(4, .ref o0), (0, .ref x), (1, .int 0), (2, .int 1), (3, .int k)]) hx hb dX6_lay_25 hl (by decide) rfl (fun ls16 hl17 => ?_)
          clear hl
          refine lv_aload hx hb dX6_lay_27 (lv_at hl17 0 rfl) ?_
          refine zz_get X Z8 3 rfl rfl (fun w h => List.mem_cons_of_mem _ (List.mem_append_left _ (List.mem_append_left _ (List.mem_append_left _ (List.mem_append_right _ h))))) 0 rfl (zz_m 3 rfl) rfl dX6_lay_29 ?_
          refine lv_istore (lv' := [(5, .int 0), (4, .ref o0), (0, .ref x), (1, .int 0), (2, .int 1), (3, .int k)]) hx hb dX6_lay_32 hl17 (by decide) rfl (fun ls18 hl19 => ?_)
          clear hl17
          refine lv_iload_n hx hb dX6_lay_34 rfl (lv_at hl19 4 rfl) ?_
          refine lv_iconst (v := 1) hx hb dX6_lay_35 (by decide) ?_
          refine lv_icmp_ne (tgt := 70) hx hb dX6_lay_36 (by decide) (fun h => absurd (by decide) h) (fun _ => ?_)
          refine lv_aload_n hx hb dX6_lay_39 rfl (lv_at hl19 2 rfl) ?_
          refine lv_iload_n hx hb dX6_lay_40 rfl (lv_at hl19 5 rfl) ?_
          refine zz_ci (WC := [(x, .inr (6, [.ref tx0, .ref nb, .ref tb, .ref ib, .ref ah, .ref tp, .ref rd, .ref sh, .ref sl, .ref wt, .int 0, .int 0, .int 0, .int 0, .int 0])), (nb, .inr (0, [.ref ntx, .ref nst, .ref nct, .int 0, .int 0, .int 3, .int 0, .int 0, .int 10, .int 0, .int 0, .int 0, .int 0, .int 1]))]) (TC := []) (WR := [(sl, .inl (ksl, 5, .inr (.inr (.inr (.inr slf))))), (o0, .inr (3, [.int 0, .int 0, .ref oa0, .ref ob0])), (o1, .inr (3, [.int 0, .int 0, .ref oa1, .ref ob1])), (o2, .inr (3, [.int 0, .int 0, .ref oa2, .ref ob2])), (o3, .inr (3, [.int 0, .int 0, .ref oa3, .ref ob3])), (o4, .inr (3, [.int 0, .int 0, .ref oa4, .ref ob4])), (sh, .inl (ksh, 4, .inr (.inr (.inr (.inr shf))))), (h0, .inr (2, [.int (-1), .int 0, .ref hv0])), (h1, .inr (2, [.int (-1), .int 0, .ref hv1])), (h2, .inr (2, [.int (-1), .int 0, .ref hv2])), (h3, .inr (2, [.int (-1), .int 0, .ref hv3]))]) (TR := [(ksl, .object RX3), (ksh, .object RX2)]) (k := 0) (n := 0) Z8 [0, 1] [2, 3, 4, 5, 6, 7, 8, 9, 10, 11, 12] [] [0, 1] rfl rfl (by decide +kernel) (by decide +kernel) (by decide +kernel) rfl rfl (fun Zc => va_runV (As := [.int k]) (rest := []) X (c_isStall l D x tx0 nb tb ib ah tp rd sh sl wt ntx nst nct k H5.size) (cwV 1 hts gX6_lay_X6_isStall rfl rfl rfl ⟨rfl, zh_X6_isStall⟩ ⟨Nat.le_of_ble_eq_true rfl, Nat.le_of_ble_eq_true rfl⟩) (zz_pV (ci := 6) Zc 0 rfl rfl) rfl rfl hl19.1 rfl (lv_room (Nat.le_of_ble_eq_true rfl)) dX6_lay_41 ⟨Nat.le_of_ble_eq_true rfl, Nat.le_of_ble_eq_true rfl⟩) rfl rfl (fun r13 u11 H20 locs21 hw12 Z22 => ?_)
          clear Z8
          have hw12 : r13 = 0 := hw12.trans (by decide)
          subst r13
          have Z23 : zz_S D A s [(sl, .inl (ksl, 5, .inr (.inr (.inr (.inr slf))))), (o0, .inr (3, [.int 0, .int 0, .ref oa0, .ref ob0])), (o1, .inr (3, [.int 0, .int 0, .ref oa1, .ref ob1])), (o2, .inr (3, [.int 0, .int 0, .ref oa2, .ref ob2])), (o3, .inr (3, [.int 0, .int 0, .ref oa3, .ref ob3])), (o4, .inr (3, [.int 0, .int 0, .ref oa4, .ref ob4])), (sh, .inl (ksh, 4, .inr (.inr (.inr (.inr shf))))), (h0, .inr (2, [.int (-1), .int 0, .ref hv0])), (h1, .inr (2, [.int (-1), .int 0, .ref hv1])), (h2, .inr (2, [.int (-1), .int 0, .ref hv2])), (h3, .inr (2, [.int (-1), .int 0, .ref hv3])), (x, .inr (6, [.ref tx0, .ref nb, .ref tb, .ref ib, .ref ah, .ref tp, .ref rd, .ref sh, .ref sl, .ref wt, .int 0, .int 0, .int 0, .int 0, .int 0])), (nb, .inr (0, [.ref ntx, .ref nst, .ref nct, .int 0, .int 0, .int 3, .int 0, .int 0, .int 10, .int 0, .int 0, .int 0, .int 0, .int 1]))] [(ksl, .object RX3), (ksh, .object RX2)] H20 locs21 := Z22
          clear Z22
          refine lv_if_ne (tgt := 50) hx hb dX6_lay_44 (by decide) (fun h => absurd (by decide) h) (fun _ => ?_)
          refine lv_ldc (v := (-1000000001)) hx hb hown (hts _ (zz_m 1 rfl)) dX6_lay_47 ?_
          exact zz_iret X hr hlk Z23 () (by simp [sp_lay]) [] [] (by decide +kernel) rfl rfl dX6_lay_49
        · have e10 : thing = 2 := e10
          subst e10
          refine zz_v (v := 1) (by decide) ?_
          refine lv_if_ne (tgt := 19) hx hb dX6_lay_13 (by decide) (fun _ => ?_) (fun h => absurd h (by decide))
          refine lv_aload_n hx hb dX6_lay_19 rfl (lv_at hl 0 rfl) ?_
          refine zz_get X Z8 0 rfl rfl (fun w h => List.mem_cons_of_mem _ (List.mem_append_left _ (List.mem_append_left _ (List.mem_append_left _ (List.mem_append_left _ (List.mem_append_right _ h)))))) 8 rfl (zz_m 2 rfl) rfl dX6_lay_20 ?_
          refine lv_iload_n hx hb dX6_lay_23 rfl (lv_at hl 1 rfl) ?_
          refine zz_ald X Z8 2 0 rfl rfl (zz_in 0 5 rfl) (v := .ref o0) aslf_0 dX6_lay_24 ?_
          refine lv_astore (lv' := [(4, .ref o0), (0, .ref x), (1, .int 0), (2, .int 2), (3, .int k)]) hx hb dX6_lay_25 hl (by decide) rfl (fun ls24 hl25 => ?_)
          clear hl
          refine lv_aload hx hb dX6_lay_27 (lv_at hl25 0 rfl) ?_
          refine zz_get X Z8 3 rfl rfl (fun w h => List.mem_cons_of_mem _ (List.mem_append_left _ (List.mem_append_left _ (List.mem_append_left _ (List.mem_append_right _ h))))) 0 rfl (zz_m 3 rfl) rfl dX6_lay_29 ?_
          refine lv_istore (lv' := [(5, .int 0), (4, .ref o0), (0, .ref x), (1, .int 0), (2, .int 2), (3, .int k)]) hx hb dX6_lay_32 hl25 (by decide) rfl (fun ls26 hl27 => ?_)
          clear hl25
          refine lv_iload_n hx hb dX6_lay_34 rfl (lv_at hl27 4 rfl) ?_
          refine lv_iconst (v := 1) hx hb dX6_lay_35 (by decide) ?_
          refine lv_icmp_ne (tgt := 70) hx hb dX6_lay_36 (by decide) (fun _ => ?_) (fun h => absurd h (by decide))
          refine lv_iload_n hx hb dX6_lay_70 rfl (lv_at hl27 4 rfl) ?_
          refine lv_iconst (v := 2) hx hb dX6_lay_71 (by decide) ?_
          refine lv_icmp_ne (tgt := 117) hx hb dX6_lay_72 (by decide) (fun h => absurd (by decide) h) (fun _ => ?_)
          refine lv_iload_n hx hb dX6_lay_75 rfl (lv_at hl27 5 rfl) ?_
          refine zz_ci (WC := []) (TC := []) (WR := [(x, .inr (6, [.ref tx0, .ref nb, .ref tb, .ref ib, .ref ah, .ref tp, .ref rd, .ref sh, .ref sl, .ref wt, .int 0, .int 0, .int 0, .int 0, .int 0])), (nb, .inr (0, [.ref ntx, .ref nst, .ref nct, .int 0, .int 0, .int 3, .int 0, .int 0, .int 10, .int 0, .int 0, .int 0, .int 0, .int 1])), (sl, .inl (ksl, 5, .inr (.inr (.inr (.inr slf))))), (o0, .inr (3, [.int 0, .int 0, .ref oa0, .ref ob0])), (o1, .inr (3, [.int 0, .int 0, .ref oa1, .ref ob1])), (o2, .inr (3, [.int 0, .int 0, .ref oa2, .ref ob2])), (o3, .inr (3, [.int 0, .int 0, .ref oa3, .ref ob3])), (o4, .inr (3, [.int 0, .int 0, .ref oa4, .ref ob4])), (sh, .inl (ksh, 4, .inr (.inr (.inr (.inr shf))))), (h0, .inr (2, [.int (-1), .int 0, .ref hv0])), (h1, .inr (2, [.int (-1), .int 0, .ref hv1])), (h2, .inr (2, [.int (-1), .int 0, .ref hv2])), (h3, .inr (2, [.int (-1), .int 0, .ref hv3]))]) (TR := [(ksl, .object RX3), (ksh, .object RX2)]) (k := 0) (n := 0) Z8 [] [0, 1, 2, 3, 4, 5, 6, 7, 8, 9, 10, 11, 12] [] [0, 1] rfl rfl (by decide +kernel) (by decide +kernel) (by decide +kernel) rfl rfl (fun Zc => va_runS (As := [.int k]) (rest := []) X (c_isSheet l D k H5.size) (va_cwS 1 hts gX6_lay_X6_isSheet rfl rfl rfl zh_X6_isSheet ⟨Nat.le_of_ble_eq_true rfl, Nat.le_of_ble_eq_true rfl⟩) (zz_pS Zc) rfl rfl hl27.1 rfl (lv_room (Nat.le_of_ble_eq_true rfl)) dX6_lay_76 ⟨Nat.le_of_ble_eq_true rfl, Nat.le_of_ble_eq_true rfl⟩) rfl rfl (fun r16 u14 H28 locs29 hw15 Z30 => ?_)
          clear Z8
          subst r16
          have Z31 : zz_S D A s [(x, .inr (6, [.ref tx0, .ref nb, .ref tb, .ref ib, .ref ah, .ref tp, .ref rd, .ref sh, .ref sl, .ref wt, .int 0, .int 0, .int 0, .int 0, .int 0])), (nb, .inr (0, [.ref ntx, .ref nst, .ref nct, .int 0, .int 0, .int 3, .int 0, .int 0, .int 10, .int 0, .int 0, .int 0, .int 0, .int 1])), (sl, .inl (ksl, 5, .inr (.inr (.inr (.inr slf))))), (o0, .inr (3, [.int 0, .int 0, .ref oa0, .ref ob0])), (o1, .inr (3, [.int 0, .int 0, .ref oa1, .ref ob1])), (o2, .inr (3, [.int 0, .int 0, .ref oa2, .ref ob2])), (o3, .inr (3, [.int 0, .int 0, .ref oa3, .ref ob3])), (o4, .inr (3, [.int 0, .int 0, .ref oa4, .ref ob4])), (sh, .inl (ksh, 4, .inr (.inr (.inr (.inr shf))))), (h0, .inr (2, [.int (-1), .int 0, .ref hv0])), (h1, .inr (2, [.int (-1), .int 0, .ref hv1])), (h2, .inr (2, [.int (-1), .int 0, .ref hv2])), (h3, .inr (2, [.int (-1), .int 0, .ref hv3]))] [(ksl, .object RX3), (ksh, .object RX2)] H28 locs29 := Z30
          clear Z30
          by_cases w17 : 0 ≤ k ∧ k ≤ 3
          · obtain ⟨j, hj, e18⟩ := zz_rng 3 w17 (by decide)
            rcases (show j = 0 ∨ j = 1 ∨ j = 2 ∨ j = 3 by omega) with rfl | rfl | rfl | rfl
            · have e18 : k = 0 := e18
              subst e18
              refine zz_v (v := 1) (by decide) ?_
              refine lv_if_ne (tgt := 85) hx hb dX6_lay_79 (by decide) (fun _ => ?_) (fun h => absurd h (by decide))
              refine lv_aload_n hx hb dX6_lay_85 rfl (lv_at hl27 2 rfl) ?_
              refine zz_get X Z31 0 rfl rfl (fun w h => List.mem_cons_of_mem _ (List.mem_append_left _ (List.mem_append_left _ (List.mem_append_left _ (List.mem_append_left _ (List.mem_append_right _ h)))))) 7 rfl (zz_m 7 rfl) rfl dX6_lay_86 ?_
              refine lv_iload_n hx hb dX6_lay_89 rfl (lv_at hl27 5 rfl) ?_
              refine zz_ald X Z31 8 1 rfl rfl (zz_in 0 4 rfl) (v := .ref h0) ashf_0 dX6_lay_90 ?_
              refine zz_ci (WC := [(h0, .inr (2, [.int (-1), .int 0, .ref hv0]))]) (TC := []) (WR := [(x, .inr (6, [.ref tx0, .ref nb, .ref tb, .ref ib, .ref ah, .ref tp, .ref rd, .ref sh, .ref sl, .ref wt, .int 0, .int 0, .int 0, .int 0, .int 0])), (nb, .inr (0, [.ref ntx, .ref nst, .ref nct, .int 0, .int 0, .int 3, .int 0, .int 0, .int 10, .int 0, .int 0, .int 0, .int 0, .int 1])), (sl, .inl (ksl, 5, .inr (.inr (.inr (.inr slf))))), (o0, .inr (3, [.int 0, .int 0, .ref oa0, .ref ob0])), (o1, .inr (3, [.int 0, .int 0, .ref oa1, .ref ob1])), (o2, .inr (3, [.int 0, .int 0, .ref oa2, .ref ob2])), (o3, .inr (3, [.int 0, .int 0, .ref oa3, .ref ob3])), (o4, .inr (3, [.int 0, .int 0, .ref oa4, .ref ob4])), (sh, .inl (ksh, 4, .inr (.inr (.inr (.inr shf))))), (h1, .inr (2, [.int (-1), .int 0, .ref hv1])), (h2, .inr (2, [.int (-1), .int 0, .ref hv2])), (h3, .inr (2, [.int (-1), .int 0, .ref hv3]))]) (TR := [(ksl, .object RX3), (ksh, .object RX2)]) (k := 0) (n := 0) Z31 [9] [0, 1, 2, 3, 4, 5, 6, 7, 8, 10, 11, 12] [] [0, 1] rfl rfl (by decide +kernel) (by decide +kernel) (by decide +kernel) rfl rfl (fun Zc => va_runV (As := []) (rest := []) X (c_isMissing l D h0 0 hv0 H28.size) (cwV 0 hts gX6_lay_X2_isMissing rfl rfl rfl ⟨rfl, zh_X2_isMissing⟩ ⟨Nat.le_of_ble_eq_true rfl, Nat.le_of_ble_eq_true rfl⟩) (zz_pV (ci := 2) Zc 0 rfl rfl) rfl rfl hl27.1 rfl (lv_room (Nat.le_of_ble_eq_true rfl)) dX6_lay_91 ⟨Nat.le_of_ble_eq_true rfl, Nat.le_of_ble_eq_true rfl⟩) rfl rfl (fun r21 u19 H32 locs33 hw20 Z34 => ?_)
              clear Z31
              have hw20 : r21 = 1 := hw20.trans (by decide)
              subst r21
              have Z35 : zz_S D A s [(x, .inr (6, [.ref tx0, .ref nb, .ref tb, .ref ib, .ref ah, .ref tp, .ref rd, .ref sh, .ref sl, .ref wt, .int 0, .int 0, .int 0, .int 0, .int 0])), (nb, .inr (0, [.ref ntx, .ref nst, .ref nct, .int 0, .int 0, .int 3, .int 0, .int 0, .int 10, .int 0, .int 0, .int 0, .int 0, .int 1])), (sl, .inl (ksl, 5, .inr (.inr (.inr (.inr slf))))), (o0, .inr (3, [.int 0, .int 0, .ref oa0, .ref ob0])), (o1, .inr (3, [.int 0, .int 0, .ref oa1, .ref ob1])), (o2, .inr (3, [.int 0, .int 0, .ref oa2, .ref ob2])), (o3, .inr (3, [.int 0, .int 0, .ref oa3, .ref ob3])), (o4, .inr (3, [.int 0, .int 0, .ref oa4, .ref ob4])), (sh, .inl (ksh, 4, .inr (.inr (.inr (.inr shf))))), (h1, .inr (2, [.int (-1), .int 0, .ref hv1])), (h2, .inr (2, [.int (-1), .int 0, .ref hv2])), (h3, .inr (2, [.int (-1), .int 0, .ref hv3])), (h0, .inr (2, [.int (-1), .int 0, .ref hv0]))] [(ksl, .object RX3), (ksh, .object RX2)] H32 locs33 := Z34
              clear Z34
              refine lv_if_eq (tgt := 100) hx hb dX6_lay_94 (by decide) (fun h => absurd h (by decide)) (fun _ => ?_)
              refine lv_ldc (v := (-1000000011)) hx hb hown (hts _ (zz_m 8 rfl)) dX6_lay_97 ?_
              exact zz_iret X hr hlk Z35 () (by simp [sp_lay]) [] [] (by decide +kernel) rfl rfl dX6_lay_99
            · have e18 : k = 1 := e18
              subst e18
              refine zz_v (v := 1) (by decide) ?_
              refine lv_if_ne (tgt := 85) hx hb dX6_lay_79 (by decide) (fun _ => ?_) (fun h => absurd h (by decide))
              refine lv_aload_n hx hb dX6_lay_85 rfl (lv_at hl27 2 rfl) ?_
              refine zz_get X Z31 0 rfl rfl (fun w h => List.mem_cons_of_mem _ (List.mem_append_left _ (List.mem_append_left _ (List.mem_append_left _ (List.mem_append_left _ (List.mem_append_right _ h)))))) 7 rfl (zz_m 7 rfl) rfl dX6_lay_86 ?_
              refine lv_iload_n hx hb dX6_lay_89 rfl (lv_at hl27 5 rfl) ?_
              refine zz_ald X Z31 8 1 rfl rfl (zz_in 1 4 rfl) (v := .ref h1) ashf_1 dX6_lay_90 ?_
              refine zz_ci (WC := [(h1, .inr (2, [.int (-1), .int 0, .ref hv1]))]) (TC := []) (WR := [(x, .inr (6, [.ref tx0, .ref nb, .ref tb, .ref ib, .ref ah, .ref tp, .ref rd, .ref sh, .ref sl, .ref wt, .int 0, .int 0, .int 0, .int 0, .int 0])), (nb, .inr (0, [.ref ntx, .ref nst, .ref nct, .int 0, .int 0, .int 3, .int 0, .int 0, .int 10, .int 0, .int 0, .int 0, .int 0, .int 1])), (sl, .inl (ksl, 5, .inr (.inr (.inr (.inr slf))))), (o0, .inr (3, [.int 0, .int 0, .ref oa0, .ref ob0])), (o1, .inr (3, [.int 0, .int 0, .ref oa1, .ref ob1])), (o2, .inr (3, [.int 0, .int 0, .ref oa2, .ref ob2])), (o3, .inr (3, [.int 0, .int 0, .ref oa3, .ref ob3])), (o4, .inr (3, [.int 0, .int 0, .ref oa4, .ref ob4])), (sh, .inl (ksh, 4, .inr (.inr (.inr (.inr shf))))), (h0, .inr (2, [.int (-1), .int 0, .ref hv0])), (h2, .inr (2, [.int (-1), .int 0, .ref hv2])), (h3, .inr (2, [.int (-1), .int 0, .ref hv3]))]) (TR := [(ksl, .object RX3), (ksh, .object RX2)]) (k := 0) (n := 0) Z31 [10] [0, 1, 2, 3, 4, 5, 6, 7, 8, 9, 11, 12] [] [0, 1] rfl rfl (by decide +kernel) (by decide +kernel) (by decide +kernel) rfl rfl (fun Zc => va_runV (As := []) (rest := []) X (c_isMissing l D h1 0 hv1 H28.size) (cwV 0 hts gX6_lay_X2_isMissing rfl rfl rfl ⟨rfl, zh_X2_isMissing⟩ ⟨Nat.le_of_ble_eq_true rfl, Nat.le_of_ble_eq_true rfl⟩) (zz_pV (ci := 2) Zc 0 rfl rfl) rfl rfl hl27.1 rfl (lv_room (Nat.le_of_ble_eq_true rfl)) dX6_lay_91 ⟨Nat.le_of_ble_eq_true rfl, Nat.le_of_ble_eq_true rfl⟩) rfl rfl (fun r24 u22 H36 locs37 hw23 Z38 => ?_)
              clear Z31
              have hw23 : r24 = 1 := hw23.trans (by decide)
              subst r24
              have Z39 : zz_S D A s [(x, .inr (6, [.ref tx0, .ref nb, .ref tb, .ref ib, .ref ah, .ref tp, .ref rd, .ref sh, .ref sl, .ref wt, .int 0, .int 0, .int 0, .int 0, .int 0])), (nb, .inr (0, [.ref ntx, .ref nst, .ref nct, .int 0, .int 0, .int 3, .int 0, .int 0, .int 10, .int 0, .int 0, .int 0, .int 0, .int 1])), (sl, .inl (ksl, 5, .inr (.inr (.inr (.inr slf))))), (o0, .inr (3, [.int 0, .int 0, .ref oa0, .ref ob0])), (o1, .inr (3, [.int 0, .int 0, .ref oa1, .ref ob1])), (o2, .inr (3, [.int 0, .int 0, .ref oa2, .ref ob2])), (o3, .inr (3, [.int 0, .int 0, .ref oa3, .ref ob3])), (o4, .inr (3, [.int 0, .int 0, .ref oa4, .ref ob4])), (sh, .inl (ksh, 4, .inr (.inr (.inr (.inr shf))))), (h0, .inr (2, [.int (-1), .int 0, .ref hv0])), (h2, .inr (2, [.int (-1), .int 0, .ref hv2])), (h3, .inr (2, [.int (-1), .int 0, .ref hv3])), (h1, .inr (2, [.int (-1), .int 0, .ref hv1]))] [(ksl, .object RX3), (ksh, .object RX2)] H36 locs37 := Z38
              clear Z38
              refine lv_if_eq (tgt := 100) hx hb dX6_lay_94 (by decide) (fun h => absurd h (by decide)) (fun _ => ?_)
              refine lv_ldc (v := (-1000000011)) hx hb hown (hts _ (zz_m 8 rfl)) dX6_lay_97 ?_
              exact zz_iret X hr hlk Z39 () (by simp [sp_lay]) [] [] (by decide +kernel) rfl rfl dX6_lay_99
            · have e18 : k = 2 := e18
              subst e18
              refine zz_v (v := 1) (by decide) ?_
              refine lv_if_ne (tgt := 85) hx hb dX6_lay_79 (by decide) (fun _ => ?_) (fun h => absurd h (by decide))
              refine lv_aload_n hx hb dX6_lay_85 rfl (lv_at hl27 2 rfl) ?_
              refine zz_get X Z31 0 rfl rfl (fun w h => List.mem_cons_of_mem _ (List.mem_append_left _ (List.mem_append_left _ (List.mem_append_left _ (List.mem_append_left _ (List.mem_append_right _ h)))))) 7 rfl (zz_m 7 rfl) rfl dX6_lay_86 ?_
              refine lv_iload_n hx hb dX6_lay_89 rfl (lv_at hl27 5 rfl) ?_
              refine zz_ald X Z31 8 1 rfl rfl (zz_in 2 4 rfl) (v := .ref h2) ashf_2 dX6_lay_90 ?_
              refine zz_ci (WC := [(h2, .inr (2, [.int (-1), .int 0, .ref hv2]))]) (TC := []) (WR := [(x, .inr (6, [.ref tx0, .ref nb, .ref tb, .ref ib, .ref ah, .ref tp, .ref rd, .ref sh, .ref sl, .ref wt, .int 0, .int 0, .int 0, .int 0, .int 0])), (nb, .inr (0, [.ref ntx, .ref nst, .ref nct, .int 0, .int 0, .int 3, .int 0, .int 0, .int 10, .int 0, .int 0, .int 0, .int 0, .int 1])), (sl, .inl (ksl, 5, .inr (.inr (.inr (.inr slf))))), (o0, .inr (3, [.int 0, .int 0, .ref oa0, .ref ob0])), (o1, .inr (3, [.int 0, .int 0, .ref oa1, .ref ob1])), (o2, .inr (3, [.int 0, .int 0, .ref oa2, .ref ob2])), (o3, .inr (3, [.int 0, .int 0, .ref oa3, .ref ob3])), (o4, .inr (3, [.int 0, .int 0, .ref oa4, .ref ob4])), (sh, .inl (ksh, 4, .inr (.inr (.inr (.inr shf))))), (h0, .inr (2, [.int (-1), .int 0, .ref hv0])), (h1, .inr (2, [.int (-1), .int 0, .ref hv1])), (h3, .inr (2, [.int (-1), .int 0, .ref hv3]))]) (TR := [(ksl, .object RX3), (ksh, .object RX2)]) (k := 0) (n := 0) Z31 [11] [0, 1, 2, 3, 4, 5, 6, 7, 8, 9, 10, 12] [] [0, 1] rfl rfl (by decide +kernel) (by decide +kernel) (by decide +kernel) rfl rfl (fun Zc => va_runV (As := []) (rest := []) X (c_isMissing l D h2 0 hv2 H28.size) (cwV 0 hts gX6_lay_X2_isMissing rfl rfl rfl ⟨rfl, zh_X2_isMissing⟩ ⟨Nat.le_of_ble_eq_true rfl, Nat.le_of_ble_eq_true rfl⟩) (zz_pV (ci := 2) Zc 0 rfl rfl) rfl rfl hl27.1 rfl (lv_room (Nat.le_of_ble_eq_true rfl)) dX6_lay_91 ⟨Nat.le_of_ble_eq_true rfl, Nat.le_of_ble_eq_true rfl⟩) rfl rfl (fun r27 u25 H40 locs41 hw26 Z42 => ?_)
              clear Z31
              have hw26 : r27 = 1 := hw26.trans (by decide)
              subst r27
              have Z43 : zz_S D A s [(x, .inr (6, [.ref tx0, .ref nb, .ref tb, .ref ib, .ref ah, .ref tp, .ref rd, .ref sh, .ref sl, .ref wt, .int 0, .int 0, .int 0, .int 0, .int 0])), (nb, .inr (0, [.ref ntx, .ref nst, .ref nct, .int 0, .int 0, .int 3, .int 0, .int 0, .int 10, .int 0, .int 0, .int 0, .int 0, .int 1])), (sl, .inl (ksl, 5, .inr (.inr (.inr (.inr slf))))), (o0, .inr (3, [.int 0, .int 0, .ref oa0, .ref ob0])), (o1, .inr (3, [.int 0, .int 0, .ref oa1, .ref ob1])), (o2, .inr (3, [.int 0, .int 0, .ref oa2, .ref ob2])), (o3, .inr (3, [.int 0, .int 0, .ref oa3, .ref ob3])), (o4, .inr (3, [.int 0, .int 0, .ref oa4, .ref ob4])), (sh, .inl (ksh, 4, .inr (.inr (.inr (.inr shf))))), (h0, .inr (2, [.int (-1), .int 0, .ref hv0])), (h1, .inr (2, [.int (-1), .int 0, .ref hv1])), (h3, .inr (2, [.int (-1), .int 0, .ref hv3])), (h2, .inr (2, [.int (-1), .int 0, .ref hv2]))] [(ksl, .object RX3), (ksh, .object RX2)] H40 locs41 := Z42
              clear Z42
              refine lv_if_eq (tgt := 100) hx hb dX6_lay_94 (by decide) (fun h => absurd h (by decide)) (fun _ => ?_)
              refine lv_ldc (v := (-1000000011)) hx hb hown (hts _ (zz_m 8 rfl)) dX6_lay_97 ?_
              exact zz_iret X hr hlk Z43 () (by simp [sp_lay]) [] [] (by decide +kernel) rfl rfl dX6_lay_99
            · have e18 : k = 3 := e18
              subst e18
              refine zz_v (v := 1) (by decide) ?_
              refine lv_if_ne (tgt := 85) hx hb dX6_lay_79 (by decide) (fun _ => ?_) (fun h => absurd h (by decide))
              refine lv_aload_n hx hb dX6_lay_85 rfl (lv_at hl27 2 rfl) ?_
              refine zz_get X Z31 0 rfl rfl (fun w h => List.mem_cons_of_mem _ (List.mem_append_left _ (List.mem_append_left _ (List.mem_append_left _ (List.mem_append_left _ (List.mem_append_right _ h)))))) 7 rfl (zz_m 7 rfl) rfl dX6_lay_86 ?_
              refine lv_iload_n hx hb dX6_lay_89 rfl (lv_at hl27 5 rfl) ?_
              refine zz_ald X Z31 8 1 rfl rfl (zz_in 3 4 rfl) (v := .ref h3) ashf_3 dX6_lay_90 ?_
              refine zz_ci (WC := [(h3, .inr (2, [.int (-1), .int 0, .ref hv3]))]) (TC := []) (WR := [(x, .inr (6, [.ref tx0, .ref nb, .ref tb, .ref ib, .ref ah, .ref tp, .ref rd, .ref sh, .ref sl, .ref wt, .int 0, .int 0, .int 0, .int 0, .int 0])), (nb, .inr (0, [.ref ntx, .ref nst, .ref nct, .int 0, .int 0, .int 3, .int 0, .int 0, .int 10, .int 0, .int 0, .int 0, .int 0, .int 1])), (sl, .inl (ksl, 5, .inr (.inr (.inr (.inr slf))))), (o0, .inr (3, [.int 0, .int 0, .ref oa0, .ref ob0])), (o1, .inr (3, [.int 0, .int 0, .ref oa1, .ref ob1])), (o2, .inr (3, [.int 0, .int 0, .ref oa2, .ref ob2])), (o3, .inr (3, [.int 0, .int 0, .ref oa3, .ref ob3])), (o4, .inr (3, [.int 0, .int 0, .ref oa4, .ref ob4])), (sh, .inl (ksh, 4, .inr (.inr (.inr (.inr shf))))), (h0, .inr (2, [.int (-1), .int 0, .ref hv0])), (h1, .inr (2, [.int (-1), .int 0, .ref hv1])), (h2, .inr (2, [.int (-1), .int 0, .ref hv2]))]) (TR := [(ksl, .object RX3), (ksh, .object RX2)]) (k := 0) (n := 0) Z31 [12] [0, 1, 2, 3, 4, 5, 6, 7, 8, 9, 10, 11] [] [0, 1] rfl rfl (by decide +kernel) (by decide +kernel) (by decide +kernel) rfl rfl (fun Zc => va_runV (As := []) (rest := []) X (c_isMissing l D h3 0 hv3 H28.size) (cwV 0 hts gX6_lay_X2_isMissing rfl rfl rfl ⟨rfl, zh_X2_isMissing⟩ ⟨Nat.le_of_ble_eq_true rfl, Nat.le_of_ble_eq_true rfl⟩) (zz_pV (ci := 2) Zc 0 rfl rfl) rfl rfl hl27.1 rfl (lv_room (Nat.le_of_ble_eq_true rfl)) dX6_lay_91 ⟨Nat.le_of_ble_eq_true rfl, Nat.le_of_ble_eq_true rfl⟩) rfl rfl (fun r30 u28 H44 locs45 hw29 Z46 => ?_)
              clear Z31
              have hw29 : r30 = 1 := hw29.trans (by decide)
              subst r30
              have Z47 : zz_S D A s [(x, .inr (6, [.ref tx0, .ref nb, .ref tb, .ref ib, .ref ah, .ref tp, .ref rd, .ref sh, .ref sl, .ref wt, .int 0, .int 0, .int 0, .int 0, .int 0])), (nb, .inr (0, [.ref ntx, .ref nst, .ref nct, .int 0, .int 0, .int 3, .int 0, .int 0, .int 10, .int 0, .int 0, .int 0, .int 0, .int 1])), (sl, .inl (ksl, 5, .inr (.inr (.inr (.inr slf))))), (o0, .inr (3, [.int 0, .int 0, .ref oa0, .ref ob0])), (o1, .inr (3, [.int 0, .int 0, .ref oa1, .ref ob1])), (o2, .inr (3, [.int 0, .int 0, .ref oa2, .ref ob2])), (o3, .inr (3, [.int 0, .int 0, .ref oa3, .ref ob3])), (o4, .inr (3, [.int 0, .int 0, .ref oa4, .ref ob4])), (sh, .inl (ksh, 4, .inr (.inr (.inr (.inr shf))))), (h0, .inr (2, [.int (-1), .int 0, .ref hv0])), (h1, .inr (2, [.int (-1), .int 0, .ref hv1])), (h2, .inr (2, [.int (-1), .int 0, .ref hv2])), (h3, .inr (2, [.int (-1), .int 0, .ref hv3]))] [(ksl, .object RX3), (ksh, .object RX2)] H44 locs45 := Z46
              clear Z46
              refine lv_if_eq (tgt := 100) hx hb dX6_lay_94 (by decide) (fun h => absurd h (by decide)) (fun _ => ?_)
              refine lv_ldc (v := (-1000000011)) hx hb hown (hts _ (zz_m 8 rfl)) dX6_lay_97 ?_
              exact zz_iret X hr hlk Z47 () (by simp [sp_lay]) [] [] (by decide +kernel) rfl rfl dX6_lay_99
          · refine zz_v (v := 0) (zz_wiF w17) ?_
            refine lv_if_ne (tgt := 85) hx hb dX6_lay_79 (by decide) (fun h => absurd (by decide) h) (fun _ => ?_)
            refine lv_ldc (v := (-1000000001)) hx hb hown (hts _ (zz_m 1 rfl)) dX6_lay_82 ?_
            exact zz_iret X hr hlk Z31 () (by simp [sp_lay, w17]) [] [] (by decide +kernel) rfl rfl dX6_lay_84
        · have e10 : thing = 3 := e10
          subst e10
          refine zz_v (v := 1) (by decide) ?_
          refine lv_if_ne (tgt := 19) hx hb dX6_lay_13 (by decide) (fun _ => ?_) (fun h => absurd h (by decide))
          refine lv_aload_n hx hb dX6_lay_19 rfl (lv_at hl 0 rfl) ?_
          refine zz_get X Z8 0 rfl rfl (fun w h => List.mem_cons_of_mem _ (List.mem_append_left _ (List.mem_append_left _ (List.mem_append_left _ (List.mem_append_left _ (List.mem_append_right _ h)))))) 8 rfl (zz_m 2 rfl) rfl dX6_lay_20 ?_
          refine lv_iload_n hx hb dX6_lay_23 rfl (lv_at hl 1 rfl) ?_
          refine zz_ald X Z8 2 0 rfl rfl (zz_in 0 5 rfl) (v := .ref o0) aslf_0 dX6_lay_24 ?_
          refine lv_astore (lv' := [(4, .ref o0), (0, .ref x), (1, .int 0), (2, .int 3), (3, .int k)]) hx hb dX6_lay_25 hl (by decide) rfl (fun ls48 hl49 => ?_)
          clear hl
          refine lv_aload hx hb dX6_lay_27 (lv_at hl49 0 rfl) ?_
          refine zz_get X Z8 3 rfl rfl (fun w h => List.mem_cons_of_mem _ (List.mem_append_left _ (List.mem_append_left _ (List.mem_append_left _ (List.mem_append_right _ h))))) 0 rfl (zz_m 3 rfl) rfl dX6_lay_29 ?_
          refine lv_istore (lv' := [(5, .int 0), (4, .ref o0), (0, .ref x), (1, .int 0), (2, .int 3), (3, .int k)]) hx hb dX6_lay_32 hl49 (by decide) rfl (fun ls50 hl51 => ?_)
          clear hl49
          refine lv_iload_n hx hb dX6_lay_34 rfl (lv_at hl51 4 rfl) ?_
          refine lv_iconst (v := 1) hx hb dX6_lay_35 (by decide) ?_
          refine lv_icmp_ne (tgt := 70) hx hb dX6_lay_36 (by decide) (fun _ => ?_) (fun h => absurd h (by decide))
          refine lv_iload_n hx hb dX6_lay_70 rfl (lv_at hl51 4 rfl) ?_
          refine lv_iconst (v := 2) hx hb dX6_lay_71 (by decide) ?_
          refine lv_icmp_ne (tgt := 117) hx hb dX6_lay_72 (by decide) (fun _ => ?_) (fun h => absurd h (by decide))
          refine lv_iload_n hx hb dX6_lay_117 rfl (lv_at hl51 4 rfl) ?_
          refine lv_iconst (v := 3) hx hb dX6_lay_118 (by decide) ?_
          refine lv_icmp_ne (tgt := 128) hx hb dX6_lay_119 (by decide) (fun h => absurd (by decide) h) (fun _ => ?_)
          refine lv_aload hx hb dX6_lay_122 (lv_at hl51 1 rfl) ?_
          refine lv_iload_n hx hb dX6_lay_124 rfl (lv_at hl51 5 rfl) ?_
          refine zz_put (WS' := [(x, .inr (6, [.ref tx0, .ref nb, .ref tb, .ref ib, .ref ah, .ref tp, .ref rd, .ref sh, .ref sl, .ref wt, .int 0, .int 0, .int 0, .int 0, .int 0])), (nb, .inr (0, [.ref ntx, .ref nst, .ref nct, .int 0, .int 0, .int 3, .int 0, .int 0, .int 10, .int 0, .int 0, .int 0, .int 0, .int 1])), (sl, .inl (ksl, 5, .inr (.inr (.inr (.inr slf))))), (o0, .inr (3, [.int 0, .int k, .ref oa0, .ref ob0])), (o1, .inr (3, [.int 0, .int 0, .ref oa1, .ref ob1])), (o2, .inr (3, [.int 0, .int 0, .ref oa2, .ref ob2])), (o3, .inr (3, [.int 0, .int 0, .ref oa3, .ref ob3])), (o4, .inr (3, [.int 0, .int 0, .ref oa4, .ref ob4])), (sh, .inl (ksh, 4, .inr (.inr (.inr (.inr shf))))), (h0, .inr (2, [.int (-1), .int 0, .ref hv0])), (h1, .inr (2, [.int (-1), .int 0, .ref hv1])), (h2, .inr (2, [.int (-1), .int 0, .ref hv2])), (h3, .inr (2, [.int (-1), .int 0, .ref hv3]))]) X Z8 3 rfl rfl (fun w h => List.mem_cons_of_mem _ (List.mem_append_left _ (List.mem_append_left _ (List.mem_append_left _ (List.mem_append_right _ h))))) tyX3 tyX3_ok nmX3 1 rfl (zz_m 10 rfl) rfl rfl rfl rfl dX6_lay_125 rfl (fun H52 locs53 Z54 => ?_)
          clear Z8
          refine lv_aload hx hb dX6_lay_128 (lv_at hl51 1 rfl) ?_
          refine lv_iload_n hx hb dX6_lay_130 rfl (lv_at hl51 4 rfl) ?_
          refine zz_put (WS' := [(x, .inr (6, [.ref tx0, .ref nb, .ref tb, .ref ib, .ref ah, .ref tp, .ref rd, .ref sh, .ref sl, .ref wt, .int 0, .int 0, .int 0, .int 0, .int 0])), (nb, .inr (0, [.ref ntx, .ref nst, .ref nct, .int 0, .int 0, .int 3, .int 0, .int 0, .int 10, .int 0, .int 0, .int 0, .int 0, .int 1])), (sl, .inl (ksl, 5, .inr (.inr (.inr (.inr slf))))), (o0, .inr (3, [.int 3, .int k, .ref oa0, .ref ob0])), (o1, .inr (3, [.int 0, .int 0, .ref oa1, .ref ob1])), (o2, .inr (3, [.int 0, .int 0, .ref oa2, .ref ob2])), (o3, .inr (3, [.int 0, .int 0, .ref oa3, .ref ob3])), (o4, .inr (3, [.int 0, .int 0, .ref oa4, .ref ob4])), (sh, .inl (ksh, 4, .inr (.inr (.inr (.inr shf))))), (h0, .inr (2, [.int (-1), .int 0, .ref hv0])), (h1, .inr (2, [.int (-1), .int 0, .ref hv1])), (h2, .inr (2, [.int (-1), .int 0, .ref hv2])), (h3, .inr (2, [.int (-1), .int 0, .ref hv3]))]) X Z54 3 rfl rfl (fun w h => List.mem_cons_of_mem _ (List.mem_append_left _ (List.mem_append_left _ (List.mem_append_left _ (List.mem_append_right _ h))))) tyX3 tyX3_ok nmX3 0 rfl (zz_m 3 rfl) rfl rfl rfl rfl dX6_lay_131 rfl (fun H55 locs56 Z57 => ?_)
          clear Z54
          refine lv_iload hx hb dX6_lay_134 (lv_at hl51 0 rfl) ?_
          exact zz_iret X hr hlk Z57 () (by simp [sp_lay]) [] [] (by decide +kernel) rfl rfl dX6_lay_136
      · refine zz_v (v := 0) (zz_wiF w9) ?_
        refine lv_if_ne (tgt := 19) hx hb dX6_lay_13 (by decide) (fun h => absurd (by decide) h) (fun _ => ?_)
        refine lv_ldc (v := (-1000000001)) hx hb hown (hts _ (zz_m 1 rfl)) dX6_lay_16 ?_
        exact zz_iret X hr hlk Z8 () (by simp [sp_lay, w9]) [] [] (by decide +kernel) rfl rfl dX6_lay_18
    · have e5 : slot = 1 := e5
      subst e5
      refine zz_v (v := 1) (by decide) ?_
      refine lv_if_eq (tgt := 16) hx hb dX6_lay_4 (by decide) (fun h => absurd h (by decide)) (fun _ => ?_)
      refine lv_iload_n hx hb dX6_lay_7 rfl (lv_at hl 2 rfl) ?_
      refine lv_iconst (v := 0) hx hb dX6_lay_8 (by decide) ?_
      refine lv_iconst (v := 3) hx hb dX6_lay_9 (by decide) ?_
      refine zz_ci (WC := []) (TC := []) (WR := [(x, .inr (6, [.ref tx0, .ref nb, .ref tb, .ref ib, .ref ah, .ref tp, .ref rd, .ref sh, .ref sl, .ref wt, .int 0, .int 0, .int 0, .int 0, .int 0])), (nb, .inr (0, [.ref ntx, .ref nst, .ref nct, .int 0, .int 0, .int 3, .int 0, .int 0, .int 10, .int 0, .int 0, .int 0, .int 0, .int 1])), (sl, .inl (ksl, 5, .inr (.inr (.inr (.inr slf))))), (o0, .inr (3, [.int 0, .int 0, .ref oa0, .ref ob0])), (o1, .inr (3, [.int 0, .int 0, .ref oa1, .ref ob1])), (o2, .inr (3, [.int 0, .int 0, .ref oa2, .ref ob2])), (o3, .inr (3, [.int 0, .int 0, .ref oa3, .ref ob3])), (o4, .inr (3, [.int 0, .int 0, .ref oa4, .ref ob4])), (sh, .inl (ksh, 4, .inr (.inr (.inr (.inr shf))))), (h0, .inr (2, [.int (-1), .int 0, .ref hv0])), (h1, .inr (2, [.int (-1), .int 0, .ref hv1])), (h2, .inr (2, [.int (-1), .int 0, .ref hv2])), (h3, .inr (2, [.int (-1), .int 0, .ref hv3]))]) (TR := [(ksl, .object RX3), (ksh, .object RX2)]) (k := 0) (n := 0) Z4 [] [0, 1, 2, 3, 4, 5, 6, 7, 8, 9, 10, 11, 12] [] [0, 1] rfl rfl (by decide +kernel) (by decide +kernel) (by decide +kernel) rfl rfl (fun Zc => va_runS (As := [.int thing, .int 0, .int 3]) (rest := []) X (c_within l D thing 0 3 H1.size) (va_cwS 3 hts gX6_lay_X6_within rfl rfl rfl zh_X6_within ⟨Nat.le_of_ble_eq_true rfl, Nat.le_of_ble_eq_true rfl⟩) (zz_pS Zc) rfl rfl hl.1 rfl (lv_room (Nat.le_of_ble_eq_true rfl)) dX6_lay_10 ⟨Nat.le_of_ble_eq_true rfl, Nat.le_of_ble_eq_true rfl⟩) rfl rfl (fun r33 u31 H58 locs59 hw32 Z60 => ?_)
      clear Z4
      subst r33
      have Z61 : zz_S D A s [(x, .inr (6, [.ref tx0, .ref nb, .ref tb, .ref ib, .ref ah, .ref tp, .ref rd, .ref sh, .ref sl, .ref wt, .int 0, .int 0, .int 0, .int 0, .int 0])), (nb, .inr (0, [.ref ntx, .ref nst, .ref nct, .int 0, .int 0, .int 3, .int 0, .int 0, .int 10, .int 0, .int 0, .int 0, .int 0, .int 1])), (sl, .inl (ksl, 5, .inr (.inr (.inr (.inr slf))))), (o0, .inr (3, [.int 0, .int 0, .ref oa0, .ref ob0])), (o1, .inr (3, [.int 0, .int 0, .ref oa1, .ref ob1])), (o2, .inr (3, [.int 0, .int 0, .ref oa2, .ref ob2])), (o3, .inr (3, [.int 0, .int 0, .ref oa3, .ref ob3])), (o4, .inr (3, [.int 0, .int 0, .ref oa4, .ref ob4])), (sh, .inl (ksh, 4, .inr (.inr (.inr (.inr shf))))), (h0, .inr (2, [.int (-1), .int 0, .ref hv0])), (h1, .inr (2, [.int (-1), .int 0, .ref hv1])), (h2, .inr (2, [.int (-1), .int 0, .ref hv2])), (h3, .inr (2, [.int (-1), .int 0, .ref hv3]))] [(ksl, .object RX3), (ksh, .object RX2)] H58 locs59 := Z60
      clear Z60
      by_cases w34 : 0 ≤ thing ∧ thing ≤ 3
      · obtain ⟨j, hj, e35⟩ := zz_rng 3 w34 (by decide)
        rcases (show j = 0 ∨ j = 1 ∨ j = 2 ∨ j = 3 by omega) with rfl | rfl | rfl | rfl
        · have e35 : thing = 0 := e35
          subst e35
          refine zz_v (v := 1) (by decide) ?_
          refine lv_if_ne (tgt := 19) hx hb dX6_lay_13 (by decide) (fun _ => ?_) (fun h => absurd h (by decide))
          refine lv_aload_n hx hb dX6_lay_19 rfl (lv_at hl 0 rfl) ?_
          refine zz_get X Z61 0 rfl rfl (fun w h => List.mem_cons_of_mem _ (List.mem_append_left _ (List.mem_append_left _ (List.mem_append_left _ (List.mem_append_left _ (List.mem_append_right _ h)))))) 8 rfl (zz_m 2 rfl) rfl dX6_lay_20 ?_
          refine lv_iload_n hx hb dX6_lay_23 rfl (lv_at hl 1 rfl) ?_
          refine zz_ald X Z61 2 0 rfl rfl (zz_in 1 5 rfl) (v := .ref o1) aslf_1 dX6_lay_24 ?_
          refine lv_astore (lv' := [(4, .ref o1), (0, .ref x), (1, .int 1), (2, .int 0), (3, .int k)]) hx hb dX6_lay_25 hl (by decide) rfl (fun ls62 hl63 => ?_)
          clear hl
          refine lv_aload hx hb dX6_lay_27 (lv_at hl63 0 rfl) ?_
          refine zz_get X Z61 4 rfl rfl (fun w h => List.mem_cons_of_mem _ (List.mem_append_left _ (List.mem_append_left _ (List.mem_append_left _ (List.mem_append_right _ h))))) 0 rfl (zz_m 3 rfl) rfl dX6_lay_29 ?_
          refine lv_istore (lv' := [(5, .int 0), (4, .ref o1), (0, .ref x), (1, .int 1), (2, .int 0), (3, .int k)]) hx hb dX6_lay_32 hl63 (by decide) rfl (fun ls64 hl65 => ?_)
          clear hl63
          refine lv_iload_n hx hb dX6_lay_34 rfl (lv_at hl65 4 rfl) ?_
          refine lv_iconst (v := 1) hx hb dX6_lay_35 (by decide) ?_
          refine lv_icmp_ne (tgt := 70) hx hb dX6_lay_36 (by decide) (fun _ => ?_) (fun h => absurd h (by decide))
          refine lv_iload_n hx hb dX6_lay_70 rfl (lv_at hl65 4 rfl) ?_
          refine lv_iconst (v := 2) hx hb dX6_lay_71 (by decide) ?_
          refine lv_icmp_ne (tgt := 117) hx hb dX6_lay_72 (by decide) (fun _ => ?_) (fun h => absurd h (by decide))
          refine lv_iload_n hx hb dX6_lay_117 rfl (lv_at hl65 4 rfl) ?_
          refine lv_iconst (v := 3) hx hb dX6_lay_118 (by decide) ?_
          refine lv_icmp_ne (tgt := 128) hx hb dX6_lay_119 (by decide) (fun _ => ?_) (fun h => absurd h (by decide))
          refine lv_aload hx hb dX6_lay_128 (lv_at hl65 1 rfl) ?_
          refine lv_iload_n hx hb dX6_lay_130 rfl (lv_at hl65 4 rfl) ?_
          refine zz_put (WS' := [(x, .inr (6, [.ref tx0, .ref nb, .ref tb, .ref ib, .ref ah, .ref tp, .ref rd, .ref sh, .ref sl, .ref wt, .int 0, .int 0, .int 0, .int 0, .int 0])), (nb, .inr (0, [.ref ntx, .ref nst, .ref nct, .int 0, .int 0, .int 3, .int 0, .int 0, .int 10, .int 0, .int 0, .int 0, .int 0, .int 1])), (sl, .inl (ksl, 5, .inr (.inr (.inr (.inr slf))))), (o0, .inr (3, [.int 0, .int 0, .ref oa0, .ref ob0])), (o1, .inr (3, [.int 0, .int 0, .ref oa1, .ref ob1])), (o2, .inr (3, [.int 0, .int 0, .ref oa2, .ref ob2])), (o3, .inr (3, [.int 0, .int 0, .ref oa3, .ref ob3])), (o4, .inr (3, [.int 0, .int 0, .ref oa4, .ref ob4])), (sh, .inl (ksh, 4, .inr (.inr (.inr (.inr shf))))), (h0, .inr (2, [.int (-1), .int 0, .ref hv0])), (h1, .inr (2, [.int (-1), .int 0, .ref hv1])), (h2, .inr (2, [.int (-1), .int 0, .ref hv2])), (h3, .inr (2, [.int (-1), .int 0, .ref hv3]))]) X Z61 4 rfl rfl (fun w h => List.mem_cons_of_mem _ (List.mem_append_left _ (List.mem_append_left _ (List.mem_append_left _ (List.mem_append_right _ h))))) tyX3 tyX3_ok nmX3 0 rfl (zz_m 3 rfl) rfl rfl rfl rfl dX6_lay_131 rfl (fun H66 locs67 Z68 => ?_)
          clear Z61
          refine lv_iload hx hb dX6_lay_134 (lv_at hl65 0 rfl) ?_
          exact zz_iret X hr hlk Z68 () (by simp [sp_lay]) [] [] (by decide +kernel) rfl rfl dX6_lay_136
        · have e35 : thing = 1 := e35
          subst e35
          refine zz_v (v := 1) (by decide) ?_
          refine lv_if_ne (tgt := 19) hx hb dX6_lay_13 (by decide) (fun _ => ?_) (fun h => absurd h (by decide))
          refine lv_aload_n hx hb dX6_lay_19 rfl (lv_at hl 0 rfl) ?_
          refine zz_get X Z61 0 rfl rfl (fun w h => List.mem_cons_of_mem _ (List.mem_append_left _ (List.mem_append_left _ (List.mem_append_left _ (List.mem_append_left _ (List.mem_append_right _ h)))))) 8 rfl (zz_m 2 rfl) rfl dX6_lay_20 ?_
          refine lv_iload_n hx hb dX6_lay_23 rfl (lv_at hl 1 rfl) ?_
          refine zz_ald X Z61 2 0 rfl rfl (zz_in 1 5 rfl) (v := .ref o1) aslf_1 dX6_lay_24 ?_
          refine lv_astore (lv' := [(4, .ref o1), (0, .ref x), (1, .int 1), (2, .int 1), (3, .int k)]) hx hb dX6_lay_25 hl (by decide) rfl (fun ls69 hl70 => ?_)
          clear hl
          refine lv_aload hx hb dX6_lay_27 (lv_at hl70 0 rfl) ?_
          refine zz_get X Z61 4 rfl rfl (fun w h => List.mem_cons_of_mem _ (List.mem_append_left _ (List.mem_append_left _ (List.mem_append_left _ (List.mem_append_right _ h))))) 0 rfl (zz_m 3 rfl) rfl dX6_lay_29 ?_
          refine lv_istore (lv' := [(5, .int 0), (4, .ref o1), (0, .ref x), (1, .int 1), (2, .int 1), (3, .int k)]) hx hb dX6_lay_32 hl70 (by decide) rfl (fun ls71 hl72 => ?_)
          clear hl70
          refine lv_iload_n hx hb dX6_lay_34 rfl (lv_at hl72 4 rfl) ?_
          refine lv_iconst (v := 1) hx hb dX6_lay_35 (by decide) ?_
          refine lv_icmp_ne (tgt := 70) hx hb dX6_lay_36 (by decide) (fun h => absurd (by decide) h) (fun _ => ?_)
          refine lv_aload_n hx hb dX6_lay_39 rfl (lv_at hl72 2 rfl) ?_
          refine lv_iload_n hx hb dX6_lay_40 rfl (lv_at hl72 5 rfl) ?_
          refine zz_ci (WC := [(x, .inr (6, [.ref tx0, .ref nb, .ref tb, .ref ib, .ref ah, .ref tp, .ref rd, .ref sh, .ref sl, .ref wt, .int 0, .int 0, .int 0, .int 0, .int 0])), (nb, .inr (0, [.ref ntx, .ref nst, .ref nct, .int 0, .int 0, .int 3, .int 0, .int 0, .int 10, .int 0, .int 0, .int 0, .int 0, .int 1]))]) (TC := []) (WR := [(sl, .inl (ksl, 5, .inr (.inr (.inr (.inr slf))))), (o0, .inr (3, [.int 0, .int 0, .ref oa0, .ref ob0])), (o1, .inr (3, [.int 0, .int 0, .ref oa1, .ref ob1])), (o2, .inr (3, [.int 0, .int 0, .ref oa2, .ref ob2])), (o3, .inr (3, [.int 0, .int 0, .ref oa3, .ref ob3])), (o4, .inr (3, [.int 0, .int 0, .ref oa4, .ref ob4])), (sh, .inl (ksh, 4, .inr (.inr (.inr (.inr shf))))), (h0, .inr (2, [.int (-1), .int 0, .ref hv0])), (h1, .inr (2, [.int (-1), .int 0, .ref hv1])), (h2, .inr (2, [.int (-1), .int 0, .ref hv2])), (h3, .inr (2, [.int (-1), .int 0, .ref hv3]))]) (TR := [(ksl, .object RX3), (ksh, .object RX2)]) (k := 0) (n := 0) Z61 [0, 1] [2, 3, 4, 5, 6, 7, 8, 9, 10, 11, 12] [] [0, 1] rfl rfl (by decide +kernel) (by decide +kernel) (by decide +kernel) rfl rfl (fun Zc => va_runV (As := [.int k]) (rest := []) X (c_isStall l D x tx0 nb tb ib ah tp rd sh sl wt ntx nst nct k H58.size) (cwV 1 hts gX6_lay_X6_isStall rfl rfl rfl ⟨rfl, zh_X6_isStall⟩ ⟨Nat.le_of_ble_eq_true rfl, Nat.le_of_ble_eq_true rfl⟩) (zz_pV (ci := 6) Zc 0 rfl rfl) rfl rfl hl72.1 rfl (lv_room (Nat.le_of_ble_eq_true rfl)) dX6_lay_41 ⟨Nat.le_of_ble_eq_true rfl, Nat.le_of_ble_eq_true rfl⟩) rfl rfl (fun r38 u36 H73 locs74 hw37 Z75 => ?_)
          clear Z61
          have hw37 : r38 = 0 := hw37.trans (by decide)
          subst r38
          have Z76 : zz_S D A s [(sl, .inl (ksl, 5, .inr (.inr (.inr (.inr slf))))), (o0, .inr (3, [.int 0, .int 0, .ref oa0, .ref ob0])), (o1, .inr (3, [.int 0, .int 0, .ref oa1, .ref ob1])), (o2, .inr (3, [.int 0, .int 0, .ref oa2, .ref ob2])), (o3, .inr (3, [.int 0, .int 0, .ref oa3, .ref ob3])), (o4, .inr (3, [.int 0, .int 0, .ref oa4, .ref ob4])), (sh, .inl (ksh, 4, .inr (.inr (.inr (.inr shf))))), (h0, .inr (2, [.int (-1), .int 0, .ref hv0])), (h1, .inr (2, [.int (-1), .int 0, .ref hv1])), (h2, .inr (2, [.int (-1), .int 0, .ref hv2])), (h3, .inr (2, [.int (-1), .int 0, .ref hv3])), (x, .inr (6, [.ref tx0, .ref nb, .ref tb, .ref ib, .ref ah, .ref tp, .ref rd, .ref sh, .ref sl, .ref wt, .int 0, .int 0, .int 0, .int 0, .int 0])), (nb, .inr (0, [.ref ntx, .ref nst, .ref nct, .int 0, .int 0, .int 3, .int 0, .int 0, .int 10, .int 0, .int 0, .int 0, .int 0, .int 1]))] [(ksl, .object RX3), (ksh, .object RX2)] H73 locs74 := Z75
          clear Z75
          refine lv_if_ne (tgt := 50) hx hb dX6_lay_44 (by decide) (fun h => absurd (by decide) h) (fun _ => ?_)
          refine lv_ldc (v := (-1000000001)) hx hb hown (hts _ (zz_m 1 rfl)) dX6_lay_47 ?_
          exact zz_iret X hr hlk Z76 () (by simp [sp_lay]) [] [] (by decide +kernel) rfl rfl dX6_lay_49
        · have e35 : thing = 2 := e35
          subst e35
          refine zz_v (v := 1) (by decide) ?_
          refine lv_if_ne (tgt := 19) hx hb dX6_lay_13 (by decide) (fun _ => ?_) (fun h => absurd h (by decide))
          refine lv_aload_n hx hb dX6_lay_19 rfl (lv_at hl 0 rfl) ?_
          refine zz_get X Z61 0 rfl rfl (fun w h => List.mem_cons_of_mem _ (List.mem_append_left _ (List.mem_append_left _ (List.mem_append_left _ (List.mem_append_left _ (List.mem_append_right _ h)))))) 8 rfl (zz_m 2 rfl) rfl dX6_lay_20 ?_
          refine lv_iload_n hx hb dX6_lay_23 rfl (lv_at hl 1 rfl) ?_
          refine zz_ald X Z61 2 0 rfl rfl (zz_in 1 5 rfl) (v := .ref o1) aslf_1 dX6_lay_24 ?_
          refine lv_astore (lv' := [(4, .ref o1), (0, .ref x), (1, .int 1), (2, .int 2), (3, .int k)]) hx hb dX6_lay_25 hl (by decide) rfl (fun ls77 hl78 => ?_)
          clear hl
          refine lv_aload hx hb dX6_lay_27 (lv_at hl78 0 rfl) ?_
          refine zz_get X Z61 4 rfl rfl (fun w h => List.mem_cons_of_mem _ (List.mem_append_left _ (List.mem_append_left _ (List.mem_append_left _ (List.mem_append_right _ h))))) 0 rfl (zz_m 3 rfl) rfl dX6_lay_29 ?_
          refine lv_istore (lv' := [(5, .int 0), (4, .ref o1), (0, .ref x), (1, .int 1), (2, .int 2), (3, .int k)]) hx hb dX6_lay_32 hl78 (by decide) rfl (fun ls79 hl80 => ?_)
          clear hl78
          refine lv_iload_n hx hb dX6_lay_34 rfl (lv_at hl80 4 rfl) ?_
          refine lv_iconst (v := 1) hx hb dX6_lay_35 (by decide) ?_
          refine lv_icmp_ne (tgt := 70) hx hb dX6_lay_36 (by decide) (fun _ => ?_) (fun h => absurd h (by decide))
          refine lv_iload_n hx hb dX6_lay_70 rfl (lv_at hl80 4 rfl) ?_
          refine lv_iconst (v := 2) hx hb dX6_lay_71 (by decide) ?_
          refine lv_icmp_ne (tgt := 117) hx hb dX6_lay_72 (by decide) (fun h => absurd (by decide) h) (fun _ => ?_)
          refine lv_iload_n hx hb dX6_lay_75 rfl (lv_at hl80 5 rfl) ?_
          refine zz_ci (WC := []) (TC := []) (WR := [(x, .inr (6, [.ref tx0, .ref nb, .ref tb, .ref ib, .ref ah, .ref tp, .ref rd, .ref sh, .ref sl, .ref wt, .int 0, .int 0, .int 0, .int 0, .int 0])), (nb, .inr (0, [.ref ntx, .ref nst, .ref nct, .int 0, .int 0, .int 3, .int 0, .int 0, .int 10, .int 0, .int 0, .int 0, .int 0, .int 1])), (sl, .inl (ksl, 5, .inr (.inr (.inr (.inr slf))))), (o0, .inr (3, [.int 0, .int 0, .ref oa0, .ref ob0])), (o1, .inr (3, [.int 0, .int 0, .ref oa1, .ref ob1])), (o2, .inr (3, [.int 0, .int 0, .ref oa2, .ref ob2])), (o3, .inr (3, [.int 0, .int 0, .ref oa3, .ref ob3])), (o4, .inr (3, [.int 0, .int 0, .ref oa4, .ref ob4])), (sh, .inl (ksh, 4, .inr (.inr (.inr (.inr shf))))), (h0, .inr (2, [.int (-1), .int 0, .ref hv0])), (h1, .inr (2, [.int (-1), .int 0, .ref hv1])), (h2, .inr (2, [.int (-1), .int 0, .ref hv2])), (h3, .inr (2, [.int (-1), .int 0, .ref hv3]))]) (TR := [(ksl, .object RX3), (ksh, .object RX2)]) (k := 0) (n := 0) Z61 [] [0, 1, 2, 3, 4, 5, 6, 7, 8, 9, 10, 11, 12] [] [0, 1] rfl rfl (by decide +kernel) (by decide +kernel) (by decide +kernel) rfl rfl (fun Zc => va_runS (As := [.int k]) (rest := []) X (c_isSheet l D k H58.size) (va_cwS 1 hts gX6_lay_X6_isSheet rfl rfl rfl zh_X6_isSheet ⟨Nat.le_of_ble_eq_true rfl, Nat.le_of_ble_eq_true rfl⟩) (zz_pS Zc) rfl rfl hl80.1 rfl (lv_room (Nat.le_of_ble_eq_true rfl)) dX6_lay_76 ⟨Nat.le_of_ble_eq_true rfl, Nat.le_of_ble_eq_true rfl⟩) rfl rfl (fun r41 u39 H81 locs82 hw40 Z83 => ?_)
          clear Z61
          subst r41
          have Z84 : zz_S D A s [(x, .inr (6, [.ref tx0, .ref nb, .ref tb, .ref ib, .ref ah, .ref tp, .ref rd, .ref sh, .ref sl, .ref wt, .int 0, .int 0, .int 0, .int 0, .int 0])), (nb, .inr (0, [.ref ntx, .ref nst, .ref nct, .int 0, .int 0, .int 3, .int 0, .int 0, .int 10, .int 0, .int 0, .int 0, .int 0, .int 1])), (sl, .inl (ksl, 5, .inr (.inr (.inr (.inr slf))))), (o0, .inr (3, [.int 0, .int 0, .ref oa0, .ref ob0])), (o1, .inr (3, [.int 0, .int 0, .ref oa1, .ref ob1])), (o2, .inr (3, [.int 0, .int 0, .ref oa2, .ref ob2])), (o3, .inr (3, [.int 0, .int 0, .ref oa3, .ref ob3])), (o4, .inr (3, [.int 0, .int 0, .ref oa4, .ref ob4])), (sh, .inl (ksh, 4, .inr (.inr (.inr (.inr shf))))), (h0, .inr (2, [.int (-1), .int 0, .ref hv0])), (h1, .inr (2, [.int (-1), .int 0, .ref hv1])), (h2, .inr (2, [.int (-1), .int 0, .ref hv2])), (h3, .inr (2, [.int (-1), .int 0, .ref hv3]))] [(ksl, .object RX3), (ksh, .object RX2)] H81 locs82 := Z83
          clear Z83
          by_cases w42 : 0 ≤ k ∧ k ≤ 3
          · obtain ⟨j, hj, e43⟩ := zz_rng 3 w42 (by decide)
            rcases (show j = 0 ∨ j = 1 ∨ j = 2 ∨ j = 3 by omega) with rfl | rfl | rfl | rfl
            · have e43 : k = 0 := e43
              subst e43
              refine zz_v (v := 1) (by decide) ?_
              refine lv_if_ne (tgt := 85) hx hb dX6_lay_79 (by decide) (fun _ => ?_) (fun h => absurd h (by decide))
              refine lv_aload_n hx hb dX6_lay_85 rfl (lv_at hl80 2 rfl) ?_
              refine zz_get X Z84 0 rfl rfl (fun w h => List.mem_cons_of_mem _ (List.mem_append_left _ (List.mem_append_left _ (List.mem_append_left _ (List.mem_append_left _ (List.mem_append_right _ h)))))) 7 rfl (zz_m 7 rfl) rfl dX6_lay_86 ?_
              refine lv_iload_n hx hb dX6_lay_89 rfl (lv_at hl80 5 rfl) ?_
              refine zz_ald X Z84 8 1 rfl rfl (zz_in 0 4 rfl) (v := .ref h0) ashf_0 dX6_lay_90 ?_
              refine zz_ci (WC := [(h0, .inr (2, [.int (-1), .int 0, .ref hv0]))]) (TC := []) (WR := [(x, .inr (6, [.ref tx0, .ref nb, .ref tb, .ref ib, .ref ah, .ref tp, .ref rd, .ref sh, .ref sl, .ref wt, .int 0, .int 0, .int 0, .int 0, .int 0])), (nb, .inr (0, [.ref ntx, .ref nst, .ref nct, .int 0, .int 0, .int 3, .int 0, .int 0, .int 10, .int 0, .int 0, .int 0, .int 0, .int 1])), (sl, .inl (ksl, 5, .inr (.inr (.inr (.inr slf))))), (o0, .inr (3, [.int 0, .int 0, .ref oa0, .ref ob0])), (o1, .inr (3, [.int 0, .int 0, .ref oa1, .ref ob1])), (o2, .inr (3, [.int 0, .int 0, .ref oa2, .ref ob2])), (o3, .inr (3, [.int 0, .int 0, .ref oa3, .ref ob3])), (o4, .inr (3, [.int 0, .int 0, .ref oa4, .ref ob4])), (sh, .inl (ksh, 4, .inr (.inr (.inr (.inr shf))))), (h1, .inr (2, [.int (-1), .int 0, .ref hv1])), (h2, .inr (2, [.int (-1), .int 0, .ref hv2])), (h3, .inr (2, [.int (-1), .int 0, .ref hv3]))]) (TR := [(ksl, .object RX3), (ksh, .object RX2)]) (k := 0) (n := 0) Z84 [9] [0, 1, 2, 3, 4, 5, 6, 7, 8, 10, 11, 12] [] [0, 1] rfl rfl (by decide +kernel) (by decide +kernel) (by decide +kernel) rfl rfl (fun Zc => va_runV (As := []) (rest := []) X (c_isMissing l D h0 0 hv0 H81.size) (cwV 0 hts gX6_lay_X2_isMissing rfl rfl rfl ⟨rfl, zh_X2_isMissing⟩ ⟨Nat.le_of_ble_eq_true rfl, Nat.le_of_ble_eq_true rfl⟩) (zz_pV (ci := 2) Zc 0 rfl rfl) rfl rfl hl80.1 rfl (lv_room (Nat.le_of_ble_eq_true rfl)) dX6_lay_91 ⟨Nat.le_of_ble_eq_true rfl, Nat.le_of_ble_eq_true rfl⟩) rfl rfl (fun r46 u44 H85 locs86 hw45 Z87 => ?_)
              clear Z84
              have hw45 : r46 = 1 := hw45.trans (by decide)
              subst r46
              have Z88 : zz_S D A s [(x, .inr (6, [.ref tx0, .ref nb, .ref tb, .ref ib, .ref ah, .ref tp, .ref rd, .ref sh, .ref sl, .ref wt, .int 0, .int 0, .int 0, .int 0, .int 0])), (nb, .inr (0, [.ref ntx, .ref nst, .ref nct, .int 0, .int 0, .int 3, .int 0, .int 0, .int 10, .int 0, .int 0, .int 0, .int 0, .int 1])), (sl, .inl (ksl, 5, .inr (.inr (.inr (.inr slf))))), (o0, .inr (3, [.int 0, .int 0, .ref oa0, .ref ob0])), (o1, .inr (3, [.int 0, .int 0, .ref oa1, .ref ob1])), (o2, .inr (3, [.int 0, .int 0, .ref oa2, .ref ob2])), (o3, .inr (3, [.int 0, .int 0, .ref oa3, .ref ob3])), (o4, .inr (3, [.int 0, .int 0, .ref oa4, .ref ob4])), (sh, .inl (ksh, 4, .inr (.inr (.inr (.inr shf))))), (h1, .inr (2, [.int (-1), .int 0, .ref hv1])), (h2, .inr (2, [.int (-1), .int 0, .ref hv2])), (h3, .inr (2, [.int (-1), .int 0, .ref hv3])), (h0, .inr (2, [.int (-1), .int 0, .ref hv0]))] [(ksl, .object RX3), (ksh, .object RX2)] H85 locs86 := Z87
              clear Z87
              refine lv_if_eq (tgt := 100) hx hb dX6_lay_94 (by decide) (fun h => absurd h (by decide)) (fun _ => ?_)
              refine lv_ldc (v := (-1000000011)) hx hb hown (hts _ (zz_m 8 rfl)) dX6_lay_97 ?_
              exact zz_iret X hr hlk Z88 () (by simp [sp_lay]) [] [] (by decide +kernel) rfl rfl dX6_lay_99
            · have e43 : k = 1 := e43
              subst e43
              refine zz_v (v := 1) (by decide) ?_
              refine lv_if_ne (tgt := 85) hx hb dX6_lay_79 (by decide) (fun _ => ?_) (fun h => absurd h (by decide))
              refine lv_aload_n hx hb dX6_lay_85 rfl (lv_at hl80 2 rfl) ?_
              refine zz_get X Z84 0 rfl rfl (fun w h => List.mem_cons_of_mem _ (List.mem_append_left _ (List.mem_append_left _ (List.mem_append_left _ (List.mem_append_left _ (List.mem_append_right _ h)))))) 7 rfl (zz_m 7 rfl) rfl dX6_lay_86 ?_
              refine lv_iload_n hx hb dX6_lay_89 rfl (lv_at hl80 5 rfl) ?_
              refine zz_ald X Z84 8 1 rfl rfl (zz_in 1 4 rfl) (v := .ref h1) ashf_1 dX6_lay_90 ?_
              refine zz_ci (WC := [(h1, .inr (2, [.int (-1), .int 0, .ref hv1]))]) (TC := []) (WR := [(x, .inr (6, [.ref tx0, .ref nb, .ref tb, .ref ib, .ref ah, .ref tp, .ref rd, .ref sh, .ref sl, .ref wt, .int 0, .int 0, .int 0, .int 0, .int 0])), (nb, .inr (0, [.ref ntx, .ref nst, .ref nct, .int 0, .int 0, .int 3, .int 0, .int 0, .int 10, .int 0, .int 0, .int 0, .int 0, .int 1])), (sl, .inl (ksl, 5, .inr (.inr (.inr (.inr slf))))), (o0, .inr (3, [.int 0, .int 0, .ref oa0, .ref ob0])), (o1, .inr (3, [.int 0, .int 0, .ref oa1, .ref ob1])), (o2, .inr (3, [.int 0, .int 0, .ref oa2, .ref ob2])), (o3, .inr (3, [.int 0, .int 0, .ref oa3, .ref ob3])), (o4, .inr (3, [.int 0, .int 0, .ref oa4, .ref ob4])), (sh, .inl (ksh, 4, .inr (.inr (.inr (.inr shf))))), (h0, .inr (2, [.int (-1), .int 0, .ref hv0])), (h2, .inr (2, [.int (-1), .int 0, .ref hv2])), (h3, .inr (2, [.int (-1), .int 0, .ref hv3]))]) (TR := [(ksl, .object RX3), (ksh, .object RX2)]) (k := 0) (n := 0) Z84 [10] [0, 1, 2, 3, 4, 5, 6, 7, 8, 9, 11, 12] [] [0, 1] rfl rfl (by decide +kernel) (by decide +kernel) (by decide +kernel) rfl rfl (fun Zc => va_runV (As := []) (rest := []) X (c_isMissing l D h1 0 hv1 H81.size) (cwV 0 hts gX6_lay_X2_isMissing rfl rfl rfl ⟨rfl, zh_X2_isMissing⟩ ⟨Nat.le_of_ble_eq_true rfl, Nat.le_of_ble_eq_true rfl⟩) (zz_pV (ci := 2) Zc 0 rfl rfl) rfl rfl hl80.1 rfl (lv_room (Nat.le_of_ble_eq_true rfl)) dX6_lay_91 ⟨Nat.le_of_ble_eq_true rfl, Nat.le_of_ble_eq_true rfl⟩) rfl rfl (fun r49 u47 H89 locs90 hw48 Z91 => ?_)
              clear Z84
              have hw48 : r49 = 1 := hw48.trans (by decide)
              subst r49
              have Z92 : zz_S D A s [(x, .inr (6, [.ref tx0, .ref nb, .ref tb, .ref ib, .ref ah, .ref tp, .ref rd, .ref sh, .ref sl, .ref wt, .int 0, .int 0, .int 0, .int 0, .int 0])), (nb, .inr (0, [.ref ntx, .ref nst, .ref nct, .int 0, .int 0, .int 3, .int 0, .int 0, .int 10, .int 0, .int 0, .int 0, .int 0, .int 1])), (sl, .inl (ksl, 5, .inr (.inr (.inr (.inr slf))))), (o0, .inr (3, [.int 0, .int 0, .ref oa0, .ref ob0])), (o1, .inr (3, [.int 0, .int 0, .ref oa1, .ref ob1])), (o2, .inr (3, [.int 0, .int 0, .ref oa2, .ref ob2])), (o3, .inr (3, [.int 0, .int 0, .ref oa3, .ref ob3])), (o4, .inr (3, [.int 0, .int 0, .ref oa4, .ref ob4])), (sh, .inl (ksh, 4, .inr (.inr (.inr (.inr shf))))), (h0, .inr (2, [.int (-1), .int 0, .ref hv0])), (h2, .inr (2, [.int (-1), .int 0, .ref hv2])), (h3, .inr (2, [.int (-1), .int 0, .ref hv3])), (h1, .inr (2, [.int (-1), .int 0, .ref hv1]))] [(ksl, .object RX3), (ksh, .object RX2)] H89 locs90 := Z91
              clear Z91
              refine lv_if_eq (tgt := 100) hx hb dX6_lay_94 (by decide) (fun h => absurd h (by decide)) (fun _ => ?_)
              refine lv_ldc (v := (-1000000011)) hx hb hown (hts _ (zz_m 8 rfl)) dX6_lay_97 ?_
              exact zz_iret X hr hlk Z92 () (by simp [sp_lay]) [] [] (by decide +kernel) rfl rfl dX6_lay_99
            · have e43 : k = 2 := e43
              subst e43
              refine zz_v (v := 1) (by decide) ?_
              refine lv_if_ne (tgt := 85) hx hb dX6_lay_79 (by decide) (fun _ => ?_) (fun h => absurd h (by decide))
              refine lv_aload_n hx hb dX6_lay_85 rfl (lv_at hl80 2 rfl) ?_
              refine zz_get X Z84 0 rfl rfl (fun w h => List.mem_cons_of_mem _ (List.mem_append_left _ (List.mem_append_left _ (List.mem_append_left _ (List.mem_append_left _ (List.mem_append_right _ h)))))) 7 rfl (zz_m 7 rfl) rfl dX6_lay_86 ?_
              refine lv_iload_n hx hb dX6_lay_89 rfl (lv_at hl80 5 rfl) ?_
              refine zz_ald X Z84 8 1 rfl rfl (zz_in 2 4 rfl) (v := .ref h2) ashf_2 dX6_lay_90 ?_
              refine zz_ci (WC := [(h2, .inr (2, [.int (-1), .int 0, .ref hv2]))]) (TC := []) (WR := [(x, .inr (6, [.ref tx0, .ref nb, .ref tb, .ref ib, .ref ah, .ref tp, .ref rd, .ref sh, .ref sl, .ref wt, .int 0, .int 0, .int 0, .int 0, .int 0])), (nb, .inr (0, [.ref ntx, .ref nst, .ref nct, .int 0, .int 0, .int 3, .int 0, .int 0, .int 10, .int 0, .int 0, .int 0, .int 0, .int 1])), (sl, .inl (ksl, 5, .inr (.inr (.inr (.inr slf))))), (o0, .inr (3, [.int 0, .int 0, .ref oa0, .ref ob0])), (o1, .inr (3, [.int 0, .int 0, .ref oa1, .ref ob1])), (o2, .inr (3, [.int 0, .int 0, .ref oa2, .ref ob2])), (o3, .inr (3, [.int 0, .int 0, .ref oa3, .ref ob3])), (o4, .inr (3, [.int 0, .int 0, .ref oa4, .ref ob4])), (sh, .inl (ksh, 4, .inr (.inr (.inr (.inr shf))))), (h0, .inr (2, [.int (-1), .int 0, .ref hv0])), (h1, .inr (2, [.int (-1), .int 0, .ref hv1])), (h3, .inr (2, [.int (-1), .int 0, .ref hv3]))]) (TR := [(ksl, .object RX3), (ksh, .object RX2)]) (k := 0) (n := 0) Z84 [11] [0, 1, 2, 3, 4, 5, 6, 7, 8, 9, 10, 12] [] [0, 1] rfl rfl (by decide +kernel) (by decide +kernel) (by decide +kernel) rfl rfl (fun Zc => va_runV (As := []) (rest := []) X (c_isMissing l D h2 0 hv2 H81.size) (cwV 0 hts gX6_lay_X2_isMissing rfl rfl rfl ⟨rfl, zh_X2_isMissing⟩ ⟨Nat.le_of_ble_eq_true rfl, Nat.le_of_ble_eq_true rfl⟩) (zz_pV (ci := 2) Zc 0 rfl rfl) rfl rfl hl80.1 rfl (lv_room (Nat.le_of_ble_eq_true rfl)) dX6_lay_91 ⟨Nat.le_of_ble_eq_true rfl, Nat.le_of_ble_eq_true rfl⟩) rfl rfl (fun r52 u50 H93 locs94 hw51 Z95 => ?_)
              clear Z84
              have hw51 : r52 = 1 := hw51.trans (by decide)
              subst r52
              have Z96 : zz_S D A s [(x, .inr (6, [.ref tx0, .ref nb, .ref tb, .ref ib, .ref ah, .ref tp, .ref rd, .ref sh, .ref sl, .ref wt, .int 0, .int 0, .int 0, .int 0, .int 0])), (nb, .inr (0, [.ref ntx, .ref nst, .ref nct, .int 0, .int 0, .int 3, .int 0, .int 0, .int 10, .int 0, .int 0, .int 0, .int 0, .int 1])), (sl, .inl (ksl, 5, .inr (.inr (.inr (.inr slf))))), (o0, .inr (3, [.int 0, .int 0, .ref oa0, .ref ob0])), (o1, .inr (3, [.int 0, .int 0, .ref oa1, .ref ob1])), (o2, .inr (3, [.int 0, .int 0, .ref oa2, .ref ob2])), (o3, .inr (3, [.int 0, .int 0, .ref oa3, .ref ob3])), (o4, .inr (3, [.int 0, .int 0, .ref oa4, .ref ob4])), (sh, .inl (ksh, 4, .inr (.inr (.inr (.inr shf))))), (h0, .inr (2, [.int (-1), .int 0, .ref hv0])), (h1, .inr (2, [.int (-1), .int 0, .ref hv1])), (h3, .inr (2, [.int (-1), .int 0, .ref hv3])), (h2, .inr (2, [.int (-1), .int 0, .ref hv2]))] [(ksl, .object RX3), (ksh, .object RX2)] H93 locs94 := Z95
              clear Z95
              refine lv_if_eq (tgt := 100) hx hb dX6_lay_94 (by decide) (fun h => absurd h (by decide)) (fun _ => ?_)
              refine lv_ldc (v := (-1000000011)) hx hb hown (hts _ (zz_m 8 rfl)) dX6_lay_97 ?_
              exact zz_iret X hr hlk Z96 () (by simp [sp_lay]) [] [] (by decide +kernel) rfl rfl dX6_lay_99
            · have e43 : k = 3 := e43
              subst e43
              refine zz_v (v := 1) (by decide) ?_
              refine lv_if_ne (tgt := 85) hx hb dX6_lay_79 (by decide) (fun _ => ?_) (fun h => absurd h (by decide))
              refine lv_aload_n hx hb dX6_lay_85 rfl (lv_at hl80 2 rfl) ?_
              refine zz_get X Z84 0 rfl rfl (fun w h => List.mem_cons_of_mem _ (List.mem_append_left _ (List.mem_append_left _ (List.mem_append_left _ (List.mem_append_left _ (List.mem_append_right _ h)))))) 7 rfl (zz_m 7 rfl) rfl dX6_lay_86 ?_
              refine lv_iload_n hx hb dX6_lay_89 rfl (lv_at hl80 5 rfl) ?_
              refine zz_ald X Z84 8 1 rfl rfl (zz_in 3 4 rfl) (v := .ref h3) ashf_3 dX6_lay_90 ?_
              refine zz_ci (WC := [(h3, .inr (2, [.int (-1), .int 0, .ref hv3]))]) (TC := []) (WR := [(x, .inr (6, [.ref tx0, .ref nb, .ref tb, .ref ib, .ref ah, .ref tp, .ref rd, .ref sh, .ref sl, .ref wt, .int 0, .int 0, .int 0, .int 0, .int 0])), (nb, .inr (0, [.ref ntx, .ref nst, .ref nct, .int 0, .int 0, .int 3, .int 0, .int 0, .int 10, .int 0, .int 0, .int 0, .int 0, .int 1])), (sl, .inl (ksl, 5, .inr (.inr (.inr (.inr slf))))), (o0, .inr (3, [.int 0, .int 0, .ref oa0, .ref ob0])), (o1, .inr (3, [.int 0, .int 0, .ref oa1, .ref ob1])), (o2, .inr (3, [.int 0, .int 0, .ref oa2, .ref ob2])), (o3, .inr (3, [.int 0, .int 0, .ref oa3, .ref ob3])), (o4, .inr (3, [.int 0, .int 0, .ref oa4, .ref ob4])), (sh, .inl (ksh, 4, .inr (.inr (.inr (.inr shf))))), (h0, .inr (2, [.int (-1), .int 0, .ref hv0])), (h1, .inr (2, [.int (-1), .int 0, .ref hv1])), (h2, .inr (2, [.int (-1), .int 0, .ref hv2]))]) (TR := [(ksl, .object RX3), (ksh, .object RX2)]) (k := 0) (n := 0) Z84 [12] [0, 1, 2, 3, 4, 5, 6, 7, 8, 9, 10, 11] [] [0, 1] rfl rfl (by decide +kernel) (by decide +kernel) (by decide +kernel) rfl rfl (fun Zc => va_runV (As := []) (rest := []) X (c_isMissing l D h3 0 hv3 H81.size) (cwV 0 hts gX6_lay_X2_isMissing rfl rfl rfl ⟨rfl, zh_X2_isMissing⟩ ⟨Nat.le_of_ble_eq_true rfl, Nat.le_of_ble_eq_true rfl⟩) (zz_pV (ci := 2) Zc 0 rfl rfl) rfl rfl hl80.1 rfl (lv_room (Nat.le_of_ble_eq_true rfl)) dX6_lay_91 ⟨Nat.le_of_ble_eq_true rfl, Nat.le_of_ble_eq_true rfl⟩) rfl rfl (fun r55 u53 H97 locs98 hw54 Z99 => ?_)
              clear Z84
              have hw54 : r55 = 1 := hw54.trans (by decide)
              subst r55
              have Z100 : zz_S D A s [(x, .inr (6, [.ref tx0, .ref nb, .ref tb, .ref ib, .ref ah, .ref tp, .ref rd, .ref sh, .ref sl, .ref wt, .int 0, .int 0, .int 0, .int 0, .int 0])), (nb, .inr (0, [.ref ntx, .ref nst, .ref nct, .int 0, .int 0, .int 3, .int 0, .int 0, .int 10, .int 0, .int 0, .int 0, .int 0, .int 1])), (sl, .inl (ksl, 5, .inr (.inr (.inr (.inr slf))))), (o0, .inr (3, [.int 0, .int 0, .ref oa0, .ref ob0])), (o1, .inr (3, [.int 0, .int 0, .ref oa1, .ref ob1])), (o2, .inr (3, [.int 0, .int 0, .ref oa2, .ref ob2])), (o3, .inr (3, [.int 0, .int 0, .ref oa3, .ref ob3])), (o4, .inr (3, [.int 0, .int 0, .ref oa4, .ref ob4])), (sh, .inl (ksh, 4, .inr (.inr (.inr (.inr shf))))), (h0, .inr (2, [.int (-1), .int 0, .ref hv0])), (h1, .inr (2, [.int (-1), .int 0, .ref hv1])), (h2, .inr (2, [.int (-1), .int 0, .ref hv2])), (h3, .inr (2, [.int (-1), .int 0, .ref hv3]))] [(ksl, .object RX3), (ksh, .object RX2)] H97 locs98 := Z99
              clear Z99
              refine lv_if_eq (tgt := 100) hx hb dX6_lay_94 (by decide) (fun h => absurd h (by decide)) (fun _ => ?_)
              refine lv_ldc (v := (-1000000011)) hx hb hown (hts _ (zz_m 8 rfl)) dX6_lay_97 ?_
              exact zz_iret X hr hlk Z100 () (by simp [sp_lay]) [] [] (by decide +kernel) rfl rfl dX6_lay_99
          · refine zz_v (v := 0) (zz_wiF w42) ?_
            refine lv_if_ne (tgt := 85) hx hb dX6_lay_79 (by decide) (fun h => absurd (by decide) h) (fun _ => ?_)
            refine lv_ldc (v := (-1000000001)) hx hb hown (hts _ (zz_m 1 rfl)) dX6_lay_82 ?_
            exact zz_iret X hr hlk Z84 () (by simp [sp_lay, w42]) [] [] (by decide +kernel) rfl rfl dX6_lay_84
        · have e35 : thing = 3 := e35
          subst e35
          refine zz_v (v := 1) (by decide) ?_
          refine lv_if_ne (tgt := 19) hx hb dX6_lay_13 (by decide) (fun _ => ?_) (fun h => absurd h (by decide))
          refine lv_aload_n hx hb dX6_lay_19 rfl (lv_at hl 0 rfl) ?_
          refine zz_get X Z61 0 rfl rfl (fun w h => List.mem_cons_of_mem _ (List.mem_append_left _ (List.mem_append_left _ (List.mem_append_left _ (List.mem_append_left _ (List.mem_append_right _ h)))))) 8 rfl (zz_m 2 rfl) rfl dX6_lay_20 ?_
          refine lv_iload_n hx hb dX6_lay_23 rfl (lv_at hl 1 rfl) ?_
          refine zz_ald X Z61 2 0 rfl rfl (zz_in 1 5 rfl) (v := .ref o1) aslf_1 dX6_lay_24 ?_
          refine lv_astore (lv' := [(4, .ref o1), (0, .ref x), (1, .int 1), (2, .int 3), (3, .int k)]) hx hb dX6_lay_25 hl (by decide) rfl (fun ls101 hl102 => ?_)
          clear hl
          refine lv_aload hx hb dX6_lay_27 (lv_at hl102 0 rfl) ?_
          refine zz_get X Z61 4 rfl rfl (fun w h => List.mem_cons_of_mem _ (List.mem_append_left _ (List.mem_append_left _ (List.mem_append_left _ (List.mem_append_right _ h))))) 0 rfl (zz_m 3 rfl) rfl dX6_lay_29 ?_
          refine lv_istore (lv' := [(5, .int 0), (4, .ref o1), (0, .ref x), (1, .int 1), (2, .int 3), (3, .int k)]) hx hb dX6_lay_32 hl102 (by decide) rfl (fun ls103 hl104 => ?_)
          clear hl102
          refine lv_iload_n hx hb dX6_lay_34 rfl (lv_at hl104 4 rfl) ?_
          refine lv_iconst (v := 1) hx hb dX6_lay_35 (by decide) ?_
          refine lv_icmp_ne (tgt := 70) hx hb dX6_lay_36 (by decide) (fun _ => ?_) (fun h => absurd h (by decide))
          refine lv_iload_n hx hb dX6_lay_70 rfl (lv_at hl104 4 rfl) ?_
          refine lv_iconst (v := 2) hx hb dX6_lay_71 (by decide) ?_
          refine lv_icmp_ne (tgt := 117) hx hb dX6_lay_72 (by decide) (fun _ => ?_) (fun h => absurd h (by decide))
          refine lv_iload_n hx hb dX6_lay_117 rfl (lv_at hl104 4 rfl) ?_
          refine lv_iconst (v := 3) hx hb dX6_lay_118 (by decide) ?_
          refine lv_icmp_ne (tgt := 128) hx hb dX6_lay_119 (by decide) (fun h => absurd (by decide) h) (fun _ => ?_)
          refine lv_aload hx hb dX6_lay_122 (lv_at hl104 1 rfl) ?_
          refine lv_iload_n hx hb dX6_lay_124 rfl (lv_at hl104 5 rfl) ?_
          refine zz_put (WS' := [(x, .inr (6, [.ref tx0, .ref nb, .ref tb, .ref ib, .ref ah, .ref tp, .ref rd, .ref sh, .ref sl, .ref wt, .int 0, .int 0, .int 0, .int 0, .int 0])), (nb, .inr (0, [.ref ntx, .ref nst, .ref nct, .int 0, .int 0, .int 3, .int 0, .int 0, .int 10, .int 0, .int 0, .int 0, .int 0, .int 1])), (sl, .inl (ksl, 5, .inr (.inr (.inr (.inr slf))))), (o0, .inr (3, [.int 0, .int 0, .ref oa0, .ref ob0])), (o1, .inr (3, [.int 0, .int k, .ref oa1, .ref ob1])), (o2, .inr (3, [.int 0, .int 0, .ref oa2, .ref ob2])), (o3, .inr (3, [.int 0, .int 0, .ref oa3, .ref ob3])), (o4, .inr (3, [.int 0, .int 0, .ref oa4, .ref ob4])), (sh, .inl (ksh, 4, .inr (.inr (.inr (.inr shf))))), (h0, .inr (2, [.int (-1), .int 0, .ref hv0])), (h1, .inr (2, [.int (-1), .int 0, .ref hv1])), (h2, .inr (2, [.int (-1), .int 0, .ref hv2])), (h3, .inr (2, [.int (-1), .int 0, .ref hv3]))]) X Z61 4 rfl rfl (fun w h => List.mem_cons_of_mem _ (List.mem_append_left _ (List.mem_append_left _ (List.mem_append_left _ (List.mem_append_right _ h))))) tyX3 tyX3_ok nmX3 1 rfl (zz_m 10 rfl) rfl rfl rfl rfl dX6_lay_125 rfl (fun H105 locs106 Z107 => ?_)
          clear Z61
          refine lv_aload hx hb dX6_lay_128 (lv_at hl104 1 rfl) ?_
          refine lv_iload_n hx hb dX6_lay_130 rfl (lv_at hl104 4 rfl) ?_
          refine zz_put (WS' := [(x, .inr (6, [.ref tx0, .ref nb, .ref tb, .ref ib, .ref ah, .ref tp, .ref rd, .ref sh, .ref sl, .ref wt, .int 0, .int 0, .int 0, .int 0, .int 0])), (nb, .inr (0, [.ref ntx, .ref nst, .ref nct, .int 0, .int 0, .int 3, .int 0, .int 0, .int 10, .int 0, .int 0, .int 0, .int 0, .int 1])), (sl, .inl (ksl, 5, .inr (.inr (.inr (.inr slf))))), (o0, .inr (3, [.int 0, .int 0, .ref oa0, .ref ob0])), (o1, .inr (3, [.int 3, .int k, .ref oa1, .ref ob1])), (o2, .inr (3, [.int 0, .int 0, .ref oa2, .ref ob2])), (o3, .inr (3, [.int 0, .int 0, .ref oa3, .ref ob3])), (o4, .inr (3, [.int 0, .int 0, .ref oa4, .ref ob4])), (sh, .inl (ksh, 4, .inr (.inr (.inr (.inr shf))))), (h0, .inr (2, [.int (-1), .int 0, .ref hv0])), (h1, .inr (2, [.int (-1), .int 0, .ref hv1])), (h2, .inr (2, [.int (-1), .int 0, .ref hv2])), (h3, .inr (2, [.int (-1), .int 0, .ref hv3]))]) X Z107 4 rfl rfl (fun w h => List.mem_cons_of_mem _ (List.mem_append_left _ (List.mem_append_left _ (List.mem_append_left _ (List.mem_append_right _ h))))) tyX3 tyX3_ok nmX3 0 rfl (zz_m 3 rfl) rfl rfl rfl rfl dX6_lay_131 rfl (fun H108 locs109 Z110 => ?_)
          clear Z107
          refine lv_iload hx hb dX6_lay_134 (lv_at hl104 0 rfl) ?_
          exact zz_iret X hr hlk Z110 () (by simp [sp_lay]) [] [] (by decide +kernel) rfl rfl dX6_lay_136
      · refine zz_v (v := 0) (zz_wiF w34) ?_
        refine lv_if_ne (tgt := 19) hx hb dX6_lay_13 (by decide) (fun h => absurd (by decide) h) (fun _ => ?_)
        refine lv_ldc (v := (-1000000001)) hx hb hown (hts _ (zz_m 1 rfl)) dX6_lay_16 ?_
        exact zz_iret X hr hlk Z61 () (by simp [sp_lay, w34]) [] [] (by decide +kernel) rfl rfl dX6_lay_18
    · have e5 : slot = 2 := e5
      subst e5
      refine zz_v (v := 1) (by decide) ?_
      refine lv_if_eq (tgt := 16) hx hb dX6_lay_4 (by decide) (fun h => absurd h (by decide)) (fun _ => ?_)
      refine lv_iload_n hx hb dX6_lay_7 rfl (lv_at hl 2 rfl) ?_
      refine lv_iconst (v := 0) hx hb dX6_lay_8 (by decide) ?_
      refine lv_iconst (v := 3) hx hb dX6_lay_9 (by decide) ?_
      refine zz_ci (WC := []) (TC := []) (WR := [(x, .inr (6, [.ref tx0, .ref nb, .ref tb, .ref ib, .ref ah, .ref tp, .ref rd, .ref sh, .ref sl, .ref wt, .int 0, .int 0, .int 0, .int 0, .int 0])), (nb, .inr (0, [.ref ntx, .ref nst, .ref nct, .int 0, .int 0, .int 3, .int 0, .int 0, .int 10, .int 0, .int 0, .int 0, .int 0, .int 1])), (sl, .inl (ksl, 5, .inr (.inr (.inr (.inr slf))))), (o0, .inr (3, [.int 0, .int 0, .ref oa0, .ref ob0])), (o1, .inr (3, [.int 0, .int 0, .ref oa1, .ref ob1])), (o2, .inr (3, [.int 0, .int 0, .ref oa2, .ref ob2])), (o3, .inr (3, [.int 0, .int 0, .ref oa3, .ref ob3])), (o4, .inr (3, [.int 0, .int 0, .ref oa4, .ref ob4])), (sh, .inl (ksh, 4, .inr (.inr (.inr (.inr shf))))), (h0, .inr (2, [.int (-1), .int 0, .ref hv0])), (h1, .inr (2, [.int (-1), .int 0, .ref hv1])), (h2, .inr (2, [.int (-1), .int 0, .ref hv2])), (h3, .inr (2, [.int (-1), .int 0, .ref hv3]))]) (TR := [(ksl, .object RX3), (ksh, .object RX2)]) (k := 0) (n := 0) Z4 [] [0, 1, 2, 3, 4, 5, 6, 7, 8, 9, 10, 11, 12] [] [0, 1] rfl rfl (by decide +kernel) (by decide +kernel) (by decide +kernel) rfl rfl (fun Zc => va_runS (As := [.int thing, .int 0, .int 3]) (rest := []) X (c_within l D thing 0 3 H1.size) (va_cwS 3 hts gX6_lay_X6_within rfl rfl rfl zh_X6_within ⟨Nat.le_of_ble_eq_true rfl, Nat.le_of_ble_eq_true rfl⟩) (zz_pS Zc) rfl rfl hl.1 rfl (lv_room (Nat.le_of_ble_eq_true rfl)) dX6_lay_10 ⟨Nat.le_of_ble_eq_true rfl, Nat.le_of_ble_eq_true rfl⟩) rfl rfl (fun r58 u56 H111 locs112 hw57 Z113 => ?_)
      clear Z4
      subst r58
      have Z114 : zz_S D A s [(x, .inr (6, [.ref tx0, .ref nb, .ref tb, .ref ib, .ref ah, .ref tp, .ref rd, .ref sh, .ref sl, .ref wt, .int 0, .int 0, .int 0, .int 0, .int 0])), (nb, .inr (0, [.ref ntx, .ref nst, .ref nct, .int 0, .int 0, .int 3, .int 0, .int 0, .int 10, .int 0, .int 0, .int 0, .int 0, .int 1])), (sl, .inl (ksl, 5, .inr (.inr (.inr (.inr slf))))), (o0, .inr (3, [.int 0, .int 0, .ref oa0, .ref ob0])), (o1, .inr (3, [.int 0, .int 0, .ref oa1, .ref ob1])), (o2, .inr (3, [.int 0, .int 0, .ref oa2, .ref ob2])), (o3, .inr (3, [.int 0, .int 0, .ref oa3, .ref ob3])), (o4, .inr (3, [.int 0, .int 0, .ref oa4, .ref ob4])), (sh, .inl (ksh, 4, .inr (.inr (.inr (.inr shf))))), (h0, .inr (2, [.int (-1), .int 0, .ref hv0])), (h1, .inr (2, [.int (-1), .int 0, .ref hv1])), (h2, .inr (2, [.int (-1), .int 0, .ref hv2])), (h3, .inr (2, [.int (-1), .int 0, .ref hv3]))] [(ksl, .object RX3), (ksh, .object RX2)] H111 locs112 := Z113
      clear Z113
      by_cases w59 : 0 ≤ thing ∧ thing ≤ 3
      · obtain ⟨j, hj, e60⟩ := zz_rng 3 w59 (by decide)
        rcases (show j = 0 ∨ j = 1 ∨ j = 2 ∨ j = 3 by omega) with rfl | rfl | rfl | rfl
        · have e60 : thing = 0 := e60
          subst e60
          refine zz_v (v := 1) (by decide) ?_
          refine lv_if_ne (tgt := 19) hx hb dX6_lay_13 (by decide) (fun _ => ?_) (fun h => absurd h (by decide))
          refine lv_aload_n hx hb dX6_lay_19 rfl (lv_at hl 0 rfl) ?_
          refine zz_get X Z114 0 rfl rfl (fun w h => List.mem_cons_of_mem _ (List.mem_append_left _ (List.mem_append_left _ (List.mem_append_left _ (List.mem_append_left _ (List.mem_append_right _ h)))))) 8 rfl (zz_m 2 rfl) rfl dX6_lay_20 ?_
          refine lv_iload_n hx hb dX6_lay_23 rfl (lv_at hl 1 rfl) ?_
          refine zz_ald X Z114 2 0 rfl rfl (zz_in 2 5 rfl) (v := .ref o2) aslf_2 dX6_lay_24 ?_
          refine lv_astore (lv' := [(4, .ref o2), (0, .ref x), (1, .int 2), (2, .int 0), (3, .int k)]) hx hb dX6_lay_25 hl (by decide) rfl (fun ls115 hl116 => ?_)
          clear hl
          refine lv_aload hx hb dX6_lay_27 (lv_at hl116 0 rfl) ?_
          refine zz_get X Z114 5 rfl rfl (fun w h => List.mem_cons_of_mem _ (List.mem_append_left _ (List.mem_append_left _ (List.mem_append_left _ (List.mem_append_right _ h))))) 0 rfl (zz_m 3 rfl) rfl dX6_lay_29 ?_
          refine lv_istore (lv' := [(5, .int 0), (4, .ref o2), (0, .ref x), (1, .int 2), (2, .int 0), (3, .int k)]) hx hb dX6_lay_32 hl116 (by decide) rfl (fun ls117 hl118 => ?_)
          clear hl116
          refine lv_iload_n hx hb dX6_lay_34 rfl (lv_at hl118 4 rfl) ?_
          refine lv_iconst (v := 1) hx hb dX6_lay_35 (by decide) ?_
          refine lv_icmp_ne (tgt := 70) hx hb dX6_lay_36 (by decide) (fun _ => ?_) (fun h => absurd h (by decide))
          refine lv_iload_n hx hb dX6_lay_70 rfl (lv_at hl118 4 rfl) ?_
          refine lv_iconst (v := 2) hx hb dX6_lay_71 (by decide) ?_
          refine lv_icmp_ne (tgt := 117) hx hb dX6_lay_72 (by decide) (fun _ => ?_) (fun h => absurd h (by decide))
          refine lv_iload_n hx hb dX6_lay_117 rfl (lv_at hl118 4 rfl) ?_
          refine lv_iconst (v := 3) hx hb dX6_lay_118 (by decide) ?_
          refine lv_icmp_ne (tgt := 128) hx hb dX6_lay_119 (by decide) (fun _ => ?_) (fun h => absurd h (by decide))
          refine lv_aload hx hb dX6_lay_128 (lv_at hl118 1 rfl) ?_
          refine lv_iload_n hx hb dX6_lay_130 rfl (lv_at hl118 4 rfl) ?_
          refine zz_put (WS' := [(x, .inr (6, [.ref tx0, .ref nb, .ref tb, .ref ib, .ref ah, .ref tp, .ref rd, .ref sh, .ref sl, .ref wt, .int 0, .int 0, .int 0, .int 0, .int 0])), (nb, .inr (0, [.ref ntx, .ref nst, .ref nct, .int 0, .int 0, .int 3, .int 0, .int 0, .int 10, .int 0, .int 0, .int 0, .int 0, .int 1])), (sl, .inl (ksl, 5, .inr (.inr (.inr (.inr slf))))), (o0, .inr (3, [.int 0, .int 0, .ref oa0, .ref ob0])), (o1, .inr (3, [.int 0, .int 0, .ref oa1, .ref ob1])), (o2, .inr (3, [.int 0, .int 0, .ref oa2, .ref ob2])), (o3, .inr (3, [.int 0, .int 0, .ref oa3, .ref ob3])), (o4, .inr (3, [.int 0, .int 0, .ref oa4, .ref ob4])), (sh, .inl (ksh, 4, .inr (.inr (.inr (.inr shf))))), (h0, .inr (2, [.int (-1), .int 0, .ref hv0])), (h1, .inr (2, [.int (-1), .int 0, .ref hv1])), (h2, .inr (2, [.int (-1), .int 0, .ref hv2])), (h3, .inr (2, [.int (-1), .int 0, .ref hv3]))]) X Z114 5 rfl rfl (fun w h => List.mem_cons_of_mem _ (List.mem_append_left _ (List.mem_append_left _ (List.mem_append_left _ (List.mem_append_right _ h))))) tyX3 tyX3_ok nmX3 0 rfl (zz_m 3 rfl) rfl rfl rfl rfl dX6_lay_131 rfl (fun H119 locs120 Z121 => ?_)
          clear Z114
          refine lv_iload hx hb dX6_lay_134 (lv_at hl118 0 rfl) ?_
          exact zz_iret X hr hlk Z121 () (by simp [sp_lay]) [] [] (by decide +kernel) rfl rfl dX6_lay_136
        · have e60 : thing = 1 := e60
          subst e60
          refine zz_v (v := 1) (by decide) ?_
          refine lv_if_ne (tgt := 19) hx hb dX6_lay_13 (by decide) (fun _ => ?_) (fun h => absurd h (by decide))
          refine lv_aload_n hx hb dX6_lay_19 rfl (lv_at hl 0 rfl) ?_
          refine zz_get X Z114 0 rfl rfl (fun w h => List.mem_cons_of_mem _ (List.mem_append_left _ (List.mem_append_left _ (List.mem_append_left _ (List.mem_append_left _ (List.mem_append_right _ h)))))) 8 rfl (zz_m 2 rfl) rfl dX6_lay_20 ?_
          refine lv_iload_n hx hb dX6_lay_23 rfl (lv_at hl 1 rfl) ?_
          refine zz_ald X Z114 2 0 rfl rfl (zz_in 2 5 rfl) (v := .ref o2) aslf_2 dX6_lay_24 ?_
          refine lv_astore (lv' := [(4, .ref o2), (0, .ref x), (1, .int 2), (2, .int 1), (3, .int k)]) hx hb dX6_lay_25 hl (by decide) rfl (fun ls122 hl123 => ?_)
          clear hl
          refine lv_aload hx hb dX6_lay_27 (lv_at hl123 0 rfl) ?_
          refine zz_get X Z114 5 rfl rfl (fun w h => List.mem_cons_of_mem _ (List.mem_append_left _ (List.mem_append_left _ (List.mem_append_left _ (List.mem_append_right _ h))))) 0 rfl (zz_m 3 rfl) rfl dX6_lay_29 ?_
          refine lv_istore (lv' := [(5, .int 0), (4, .ref o2), (0, .ref x), (1, .int 2), (2, .int 1), (3, .int k)]) hx hb dX6_lay_32 hl123 (by decide) rfl (fun ls124 hl125 => ?_)
          clear hl123
          refine lv_iload_n hx hb dX6_lay_34 rfl (lv_at hl125 4 rfl) ?_
          refine lv_iconst (v := 1) hx hb dX6_lay_35 (by decide) ?_
          refine lv_icmp_ne (tgt := 70) hx hb dX6_lay_36 (by decide) (fun h => absurd (by decide) h) (fun _ => ?_)
          refine lv_aload_n hx hb dX6_lay_39 rfl (lv_at hl125 2 rfl) ?_
          refine lv_iload_n hx hb dX6_lay_40 rfl (lv_at hl125 5 rfl) ?_
          refine zz_ci (WC := [(x, .inr (6, [.ref tx0, .ref nb, .ref tb, .ref ib, .ref ah, .ref tp, .ref rd, .ref sh, .ref sl, .ref wt, .int 0, .int 0, .int 0, .int 0, .int 0])), (nb, .inr (0, [.ref ntx, .ref nst, .ref nct, .int 0, .int 0, .int 3, .int 0, .int 0, .int 10, .int 0, .int 0, .int 0, .int 0, .int 1]))]) (TC := []) (WR := [(sl, .inl (ksl, 5, .inr (.inr (.inr (.inr slf))))), (o0, .inr (3, [.int 0, .int 0, .ref oa0, .ref ob0])), (o1, .inr (3, [.int 0, .int 0, .ref oa1, .ref ob1])), (o2, .inr (3, [.int 0, .int 0, .ref oa2, .ref ob2])), (o3, .inr (3, [.int 0, .int 0, .ref oa3, .ref ob3])), (o4, .inr (3, [.int 0, .int 0, .ref oa4, .ref ob4])), (sh, .inl (ksh, 4, .inr (.inr (.inr (.inr shf))))), (h0, .inr (2, [.int (-1), .int 0, .ref hv0])), (h1, .inr (2, [.int (-1), .int 0, .ref hv1])), (h2, .inr (2, [.int (-1), .int 0, .ref hv2])), (h3, .inr (2, [.int (-1), .int 0, .ref hv3]))]) (TR := [(ksl, .object RX3), (ksh, .object RX2)]) (k := 0) (n := 0) Z114 [0, 1] [2, 3, 4, 5, 6, 7, 8, 9, 10, 11, 12] [] [0, 1] rfl rfl (by decide +kernel) (by decide +kernel) (by decide +kernel) rfl rfl (fun Zc => va_runV (As := [.int k]) (rest := []) X (c_isStall l D x tx0 nb tb ib ah tp rd sh sl wt ntx nst nct k H111.size) (cwV 1 hts gX6_lay_X6_isStall rfl rfl rfl ⟨rfl, zh_X6_isStall⟩ ⟨Nat.le_of_ble_eq_true rfl, Nat.le_of_ble_eq_true rfl⟩) (zz_pV (ci := 6) Zc 0 rfl rfl) rfl rfl hl125.1 rfl (lv_room (Nat.le_of_ble_eq_true rfl)) dX6_lay_41 ⟨Nat.le_of_ble_eq_true rfl, Nat.le_of_ble_eq_true rfl⟩) rfl rfl (fun r63 u61 H126 locs127 hw62 Z128 => ?_)
          clear Z114
          have hw62 : r63 = 0 := hw62.trans (by decide)
          subst r63
          have Z129 : zz_S D A s [(sl, .inl (ksl, 5, .inr (.inr (.inr (.inr slf))))), (o0, .inr (3, [.int 0, .int 0, .ref oa0, .ref ob0])), (o1, .inr (3, [.int 0, .int 0, .ref oa1, .ref ob1])), (o2, .inr (3, [.int 0, .int 0, .ref oa2, .ref ob2])), (o3, .inr (3, [.int 0, .int 0, .ref oa3, .ref ob3])), (o4, .inr (3, [.int 0, .int 0, .ref oa4, .ref ob4])), (sh, .inl (ksh, 4, .inr (.inr (.inr (.inr shf))))), (h0, .inr (2, [.int (-1), .int 0, .ref hv0])), (h1, .inr (2, [.int (-1), .int 0, .ref hv1])), (h2, .inr (2, [.int (-1), .int 0, .ref hv2])), (h3, .inr (2, [.int (-1), .int 0, .ref hv3])), (x, .inr (6, [.ref tx0, .ref nb, .ref tb, .ref ib, .ref ah, .ref tp, .ref rd, .ref sh, .ref sl, .ref wt, .int 0, .int 0, .int 0, .int 0, .int 0])), (nb, .inr (0, [.ref ntx, .ref nst, .ref nct, .int 0, .int 0, .int 3, .int 0, .int 0, .int 10, .int 0, .int 0, .int 0, .int 0, .int 1]))] [(ksl, .object RX3), (ksh, .object RX2)] H126 locs127 := Z128
          clear Z128
          refine lv_if_ne (tgt := 50) hx hb dX6_lay_44 (by decide) (fun h => absurd (by decide) h) (fun _ => ?_)
          refine lv_ldc (v := (-1000000001)) hx hb hown (hts _ (zz_m 1 rfl)) dX6_lay_47 ?_
          exact zz_iret X hr hlk Z129 () (by simp [sp_lay]) [] [] (by decide +kernel) rfl rfl dX6_lay_49
        · have e60 : thing = 2 := e60
          subst e60
          refine zz_v (v := 1) (by decide) ?_
          refine lv_if_ne (tgt := 19) hx hb dX6_lay_13 (by decide) (fun _ => ?_) (fun h => absurd h (by decide))
          refine lv_aload_n hx hb dX6_lay_19 rfl (lv_at hl 0 rfl) ?_
          refine zz_get X Z114 0 rfl rfl (fun w h => List.mem_cons_of_mem _ (List.mem_append_left _ (List.mem_append_left _ (List.mem_append_left _ (List.mem_append_left _ (List.mem_append_right _ h)))))) 8 rfl (zz_m 2 rfl) rfl dX6_lay_20 ?_
          refine lv_iload_n hx hb dX6_lay_23 rfl (lv_at hl 1 rfl) ?_
          refine zz_ald X Z114 2 0 rfl rfl (zz_in 2 5 rfl) (v := .ref o2) aslf_2 dX6_lay_24 ?_
          refine lv_astore (lv' := [(4, .ref o2), (0, .ref x), (1, .int 2), (2, .int 2), (3, .int k)]) hx hb dX6_lay_25 hl (by decide) rfl (fun ls130 hl131 => ?_)
          clear hl
          refine lv_aload hx hb dX6_lay_27 (lv_at hl131 0 rfl) ?_
          refine zz_get X Z114 5 rfl rfl (fun w h => List.mem_cons_of_mem _ (List.mem_append_left _ (List.mem_append_left _ (List.mem_append_left _ (List.mem_append_right _ h))))) 0 rfl (zz_m 3 rfl) rfl dX6_lay_29 ?_
          refine lv_istore (lv' := [(5, .int 0), (4, .ref o2), (0, .ref x), (1, .int 2), (2, .int 2), (3, .int k)]) hx hb dX6_lay_32 hl131 (by decide) rfl (fun ls132 hl133 => ?_)
          clear hl131
          refine lv_iload_n hx hb dX6_lay_34 rfl (lv_at hl133 4 rfl) ?_
          refine lv_iconst (v := 1) hx hb dX6_lay_35 (by decide) ?_
          refine lv_icmp_ne (tgt := 70) hx hb dX6_lay_36 (by decide) (fun _ => ?_) (fun h => absurd h (by decide))
          refine lv_iload_n hx hb dX6_lay_70 rfl (lv_at hl133 4 rfl) ?_
          refine lv_iconst (v := 2) hx hb dX6_lay_71 (by decide) ?_
          refine lv_icmp_ne (tgt := 117) hx hb dX6_lay_72 (by decide) (fun h => absurd (by decide) h) (fun _ => ?_)
          refine lv_iload_n hx hb dX6_lay_75 rfl (lv_at hl133 5 rfl) ?_
          refine zz_ci (WC := []) (TC := []) (WR := [(x, .inr (6, [.ref tx0, .ref nb, .ref tb, .ref ib, .ref ah, .ref tp, .ref rd, .ref sh, .ref sl, .ref wt, .int 0, .int 0, .int 0, .int 0, .int 0])), (nb, .inr (0, [.ref ntx, .ref nst, .ref nct, .int 0, .int 0, .int 3, .int 0, .int 0, .int 10, .int 0, .int 0, .int 0, .int 0, .int 1])), (sl, .inl (ksl, 5, .inr (.inr (.inr (.inr slf))))), (o0, .inr (3, [.int 0, .int 0, .ref oa0, .ref ob0])), (o1, .inr (3, [.int 0, .int 0, .ref oa1, .ref ob1])), (o2, .inr (3, [.int 0, .int 0, .ref oa2, .ref ob2])), (o3, .inr (3, [.int 0, .int 0, .ref oa3, .ref ob3])), (o4, .inr (3, [.int 0, .int 0, .ref oa4, .ref ob4])), (sh, .inl (ksh, 4, .inr (.inr (.inr (.inr shf))))), (h0, .inr (2, [.int (-1), .int 0, .ref hv0])), (h1, .inr (2, [.int (-1), .int 0, .ref hv1])), (h2, .inr (2, [.int (-1), .int 0, .ref hv2])), (h3, .inr (2, [.int (-1), .int 0, .ref hv3]))]) (TR := [(ksl, .object RX3), (ksh, .object RX2)]) (k := 0) (n := 0) Z114 [] [0, 1, 2, 3, 4, 5, 6, 7, 8, 9, 10, 11, 12] [] [0, 1] rfl rfl (by decide +kernel) (by decide +kernel) (by decide +kernel) rfl rfl (fun Zc => va_runS (As := [.int k]) (rest := []) X (c_isSheet l D k H111.size) (va_cwS 1 hts gX6_lay_X6_isSheet rfl rfl rfl zh_X6_isSheet ⟨Nat.le_of_ble_eq_true rfl, Nat.le_of_ble_eq_true rfl⟩) (zz_pS Zc) rfl rfl hl133.1 rfl (lv_room (Nat.le_of_ble_eq_true rfl)) dX6_lay_76 ⟨Nat.le_of_ble_eq_true rfl, Nat.le_of_ble_eq_true rfl⟩) rfl rfl (fun r66 u64 H134 locs135 hw65 Z136 => ?_)
          clear Z114
          subst r66
          have Z137 : zz_S D A s [(x, .inr (6, [.ref tx0, .ref nb, .ref tb, .ref ib, .ref ah, .ref tp, .ref rd, .ref sh, .ref sl, .ref wt, .int 0, .int 0, .int 0, .int 0, .int 0])), (nb, .inr (0, [.ref ntx, .ref nst, .ref nct, .int 0, .int 0, .int 3, .int 0, .int 0, .int 10, .int 0, .int 0, .int 0, .int 0, .int 1])), (sl, .inl (ksl, 5, .inr (.inr (.inr (.inr slf))))), (o0, .inr (3, [.int 0, .int 0, .ref oa0, .ref ob0])), (o1, .inr (3, [.int 0, .int 0, .ref oa1, .ref ob1])), (o2, .inr (3, [.int 0, .int 0, .ref oa2, .ref ob2])), (o3, .inr (3, [.int 0, .int 0, .ref oa3, .ref ob3])), (o4, .inr (3, [.int 0, .int 0, .ref oa4, .ref ob4])), (sh, .inl (ksh, 4, .inr (.inr (.inr (.inr shf))))), (h0, .inr (2, [.int (-1), .int 0, .ref hv0])), (h1, .inr (2, [.int (-1), .int 0, .ref hv1])), (h2, .inr (2, [.int (-1), .int 0, .ref hv2])), (h3, .inr (2, [.int (-1), .int 0, .ref hv3]))] [(ksl, .object RX3), (ksh, .object RX2)] H134 locs135 := Z136
          clear Z136
          by_cases w67 : 0 ≤ k ∧ k ≤ 3
          · obtain ⟨j, hj, e68⟩ := zz_rng 3 w67 (by decide)
            rcases (show j = 0 ∨ j = 1 ∨ j = 2 ∨ j = 3 by omega) with rfl | rfl | rfl | rfl
            · have e68 : k = 0 := e68
              subst e68
              refine zz_v (v := 1) (by decide) ?_
              refine lv_if_ne (tgt := 85) hx hb dX6_lay_79 (by decide) (fun _ => ?_) (fun h => absurd h (by decide))
              refine lv_aload_n hx hb dX6_lay_85 rfl (lv_at hl133 2 rfl) ?_
              refine zz_get X Z137 0 rfl rfl (fun w h => List.mem_cons_of_mem _ (List.mem_append_left _ (List.mem_append_left _ (List.mem_append_left _ (List.mem_append_left _ (List.mem_append_right _ h)))))) 7 rfl (zz_m 7 rfl) rfl dX6_lay_86 ?_
              refine lv_iload_n hx hb dX6_lay_89 rfl (lv_at hl133 5 rfl) ?_
              refine zz_ald X Z137 8 1 rfl rfl (zz_in 0 4 rfl) (v := .ref h0) ashf_0 dX6_lay_90 ?_
              refine zz_ci (WC := [(h0, .inr (2, [.int (-1), .int 0, .ref hv0]))]) (TC := []) (WR := [(x, .inr (6, [.ref tx0, .ref nb, .ref tb, .ref ib, .ref ah, .ref tp, .ref rd, .ref sh, .ref sl, .ref wt, .int 0, .int 0, .int 0, .int 0, .int 0])), (nb, .inr (0, [.ref ntx, .ref nst, .ref nct, .int 0, .int 0, .int 3, .int 0, .int 0, .int 10, .int 0, .int 0, .int 0, .int 0, .int 1])), (sl, .inl (ksl, 5, .inr (.inr (.inr (.inr slf))))), (o0, .inr (3, [.int 0, .int 0, .ref oa0, .ref ob0])), (o1, .inr (3, [.int 0, .int 0, .ref oa1, .ref ob1])), (o2, .inr (3, [.int 0, .int 0, .ref oa2, .ref ob2])), (o3, .inr (3, [.int 0, .int 0, .ref oa3, .ref ob3])), (o4, .inr (3, [.int 0, .int 0, .ref oa4, .ref ob4])), (sh, .inl (ksh, 4, .inr (.inr (.inr (.inr shf))))), (h1, .inr (2, [.int (-1), .int 0, .ref hv1])), (h2, .inr (2, [.int (-1), .int 0, .ref hv2])), (h3, .inr (2, [.int (-1), .int 0, .ref hv3]))]) (TR := [(ksl, .object RX3), (ksh, .object RX2)]) (k := 0) (n := 0) Z137 [9] [0, 1, 2, 3, 4, 5, 6, 7, 8, 10, 11, 12] [] [0, 1] rfl rfl (by decide +kernel) (by decide +kernel) (by decide +kernel) rfl rfl (fun Zc => va_runV (As := []) (rest := []) X (c_isMissing l D h0 0 hv0 H134.size) (cwV 0 hts gX6_lay_X2_isMissing rfl rfl rfl ⟨rfl, zh_X2_isMissing⟩ ⟨Nat.le_of_ble_eq_true rfl, Nat.le_of_ble_eq_true rfl⟩) (zz_pV (ci := 2) Zc 0 rfl rfl) rfl rfl hl133.1 rfl (lv_room (Nat.le_of_ble_eq_true rfl)) dX6_lay_91 ⟨Nat.le_of_ble_eq_true rfl, Nat.le_of_ble_eq_true rfl⟩) rfl rfl (fun r71 u69 H138 locs139 hw70 Z140 => ?_)
              clear Z137
              have hw70 : r71 = 1 := hw70.trans (by decide)
              subst r71
              have Z141 : zz_S D A s [(x, .inr (6, [.ref tx0, .ref nb, .ref tb, .ref ib, .ref ah, .ref tp, .ref rd, .ref sh, .ref sl, .ref wt, .int 0, .int 0, .int 0, .int 0, .int 0])), (nb, .inr (0, [.ref ntx, .ref nst, .ref nct, .int 0, .int 0, .int 3, .int 0, .int 0, .int 10, .int 0, .int 0, .int 0, .int 0, .int 1])), (sl, .inl (ksl, 5, .inr (.inr (.inr (.inr slf))))), (o0, .inr (3, [.int 0, .int 0, .ref oa0, .ref ob0])), (o1, .inr (3, [.int 0, .int 0, .ref oa1, .ref ob1])), (o2, .inr (3, [.int 0, .int 0, .ref oa2, .ref ob2])), (o3, .inr (3, [.int 0, .int 0, .ref oa3, .ref ob3])), (o4, .inr (3, [.int 0, .int 0, .ref oa4, .ref ob4])), (sh, .inl (ksh, 4, .inr (.inr (.inr (.inr shf))))), (h1, .inr (2, [.int (-1), .int 0, .ref hv1])), (h2, .inr (2, [.int (-1), .int 0, .ref hv2])), (h3, .inr (2, [.int (-1), .int 0, .ref hv3])), (h0, .inr (2, [.int (-1), .int 0, .ref hv0]))] [(ksl, .object RX3), (ksh, .object RX2)] H138 locs139 := Z140
              clear Z140
              refine lv_if_eq (tgt := 100) hx hb dX6_lay_94 (by decide) (fun h => absurd h (by decide)) (fun _ => ?_)
              refine lv_ldc (v := (-1000000011)) hx hb hown (hts _ (zz_m 8 rfl)) dX6_lay_97 ?_
              exact zz_iret X hr hlk Z141 () (by simp [sp_lay]) [] [] (by decide +kernel) rfl rfl dX6_lay_99
            · have e68 : k = 1 := e68
              subst e68
              refine zz_v (v := 1) (by decide) ?_
              refine lv_if_ne (tgt := 85) hx hb dX6_lay_79 (by decide) (fun _ => ?_) (fun h => absurd h (by decide))
              refine lv_aload_n hx hb dX6_lay_85 rfl (lv_at hl133 2 rfl) ?_
              refine zz_get X Z137 0 rfl rfl (fun w h => List.mem_cons_of_mem _ (List.mem_append_left _ (List.mem_append_left _ (List.mem_append_left _ (List.mem_append_left _ (List.mem_append_right _ h)))))) 7 rfl (zz_m 7 rfl) rfl dX6_lay_86 ?_
              refine lv_iload_n hx hb dX6_lay_89 rfl (lv_at hl133 5 rfl) ?_
              refine zz_ald X Z137 8 1 rfl rfl (zz_in 1 4 rfl) (v := .ref h1) ashf_1 dX6_lay_90 ?_
              refine zz_ci (WC := [(h1, .inr (2, [.int (-1), .int 0, .ref hv1]))]) (TC := []) (WR := [(x, .inr (6, [.ref tx0, .ref nb, .ref tb, .ref ib, .ref ah, .ref tp, .ref rd, .ref sh, .ref sl, .ref wt, .int 0, .int 0, .int 0, .int 0, .int 0])), (nb, .inr (0, [.ref ntx, .ref nst, .ref nct, .int 0, .int 0, .int 3, .int 0, .int 0, .int 10, .int 0, .int 0, .int 0, .int 0, .int 1])), (sl, .inl (ksl, 5, .inr (.inr (.inr (.inr slf))))), (o0, .inr (3, [.int 0, .int 0, .ref oa0, .ref ob0])), (o1, .inr (3, [.int 0, .int 0, .ref oa1, .ref ob1])), (o2, .inr (3, [.int 0, .int 0, .ref oa2, .ref ob2])), (o3, .inr (3, [.int 0, .int 0, .ref oa3, .ref ob3])), (o4, .inr (3, [.int 0, .int 0, .ref oa4, .ref ob4])), (sh, .inl (ksh, 4, .inr (.inr (.inr (.inr shf))))), (h0, .inr (2, [.int (-1), .int 0, .ref hv0])), (h2, .inr (2, [.int (-1), .int 0, .ref hv2])), (h3, .inr (2, [.int (-1), .int 0, .ref hv3]))]) (TR := [(ksl, .object RX3), (ksh, .object RX2)]) (k := 0) (n := 0) Z137 [10] [0, 1, 2, 3, 4, 5, 6, 7, 8, 9, 11, 12] [] [0, 1] rfl rfl (by decide +kernel) (by decide +kernel) (by decide +kernel) rfl rfl (fun Zc => va_runV (As := []) (rest := []) X (c_isMissing l D h1 0 hv1 H134.size) (cwV 0 hts gX6_lay_X2_isMissing rfl rfl rfl ⟨rfl, zh_X2_isMissing⟩ ⟨Nat.le_of_ble_eq_true rfl, Nat.le_of_ble_eq_true rfl⟩) (zz_pV (ci := 2) Zc 0 rfl rfl) rfl rfl hl133.1 rfl (lv_room (Nat.le_of_ble_eq_true rfl)) dX6_lay_91 ⟨Nat.le_of_ble_eq_true rfl, Nat.le_of_ble_eq_true rfl⟩) rfl rfl (fun r74 u72 H142 locs143 hw73 Z144 => ?_)
              clear Z137
              have hw73 : r74 = 1 := hw73.trans (by decide)
              subst r74
              have Z145 : zz_S D A s [(x, .inr (6, [.ref tx0, .ref nb, .ref tb, .ref ib, .ref ah, .ref tp, .ref rd, .ref sh, .ref sl, .ref wt, .int 0, .int 0, .int 0, .int 0, .int 0])), (nb, .inr (0, [.ref ntx, .ref nst, .ref nct, .int 0, .int 0, .int 3, .int 0, .int 0, .int 10, .int 0, .int 0, .int 0, .int 0, .int 1])), (sl, .inl (ksl, 5, .inr (.inr (.inr (.inr slf))))), (o0, .inr (3, [.int 0, .int 0, .ref oa0, .ref ob0])), (o1, .inr (3, [.int 0, .int 0, .ref oa1, .ref ob1])), (o2, .inr (3, [.int 0, .int 0, .ref oa2, .ref ob2])), (o3, .inr (3, [.int 0, .int 0, .ref oa3, .ref ob3])), (o4, .inr (3, [.int 0, .int 0, .ref oa4, .ref ob4])), (sh, .inl (ksh, 4, .inr (.inr (.inr (.inr shf))))), (h0, .inr (2, [.int (-1), .int 0, .ref hv0])), (h2, .inr (2, [.int (-1), .int 0, .ref hv2])), (h3, .inr (2, [.int (-1), .int 0, .ref hv3])), (h1, .inr (2, [.int (-1), .int 0, .ref hv1]))] [(ksl, .object RX3), (ksh, .object RX2)] H142 locs143 := Z144
              clear Z144
              refine lv_if_eq (tgt := 100) hx hb dX6_lay_94 (by decide) (fun h => absurd h (by decide)) (fun _ => ?_)
              refine lv_ldc (v := (-1000000011)) hx hb hown (hts _ (zz_m 8 rfl)) dX6_lay_97 ?_
              exact zz_iret X hr hlk Z145 () (by simp [sp_lay]) [] [] (by decide +kernel) rfl rfl dX6_lay_99
            · have e68 : k = 2 := e68
              subst e68
              refine zz_v (v := 1) (by decide) ?_
              refine lv_if_ne (tgt := 85) hx hb dX6_lay_79 (by decide) (fun _ => ?_) (fun h => absurd h (by decide))
              refine lv_aload_n hx hb dX6_lay_85 rfl (lv_at hl133 2 rfl) ?_
              refine zz_get X Z137 0 rfl rfl (fun w h => List.mem_cons_of_mem _ (List.mem_append_left _ (List.mem_append_left _ (List.mem_append_left _ (List.mem_append_left _ (List.mem_append_right _ h)))))) 7 rfl (zz_m 7 rfl) rfl dX6_lay_86 ?_
              refine lv_iload_n hx hb dX6_lay_89 rfl (lv_at hl133 5 rfl) ?_
              refine zz_ald X Z137 8 1 rfl rfl (zz_in 2 4 rfl) (v := .ref h2) ashf_2 dX6_lay_90 ?_
              refine zz_ci (WC := [(h2, .inr (2, [.int (-1), .int 0, .ref hv2]))]) (TC := []) (WR := [(x, .inr (6, [.ref tx0, .ref nb, .ref tb, .ref ib, .ref ah, .ref tp, .ref rd, .ref sh, .ref sl, .ref wt, .int 0, .int 0, .int 0, .int 0, .int 0])), (nb, .inr (0, [.ref ntx, .ref nst, .ref nct, .int 0, .int 0, .int 3, .int 0, .int 0, .int 10, .int 0, .int 0, .int 0, .int 0, .int 1])), (sl, .inl (ksl, 5, .inr (.inr (.inr (.inr slf))))), (o0, .inr (3, [.int 0, .int 0, .ref oa0, .ref ob0])), (o1, .inr (3, [.int 0, .int 0, .ref oa1, .ref ob1])), (o2, .inr (3, [.int 0, .int 0, .ref oa2, .ref ob2])), (o3, .inr (3, [.int 0, .int 0, .ref oa3, .ref ob3])), (o4, .inr (3, [.int 0, .int 0, .ref oa4, .ref ob4])), (sh, .inl (ksh, 4, .inr (.inr (.inr (.inr shf))))), (h0, .inr (2, [.int (-1), .int 0, .ref hv0])), (h1, .inr (2, [.int (-1), .int 0, .ref hv1])), (h3, .inr (2, [.int (-1), .int 0, .ref hv3]))]) (TR := [(ksl, .object RX3), (ksh, .object RX2)]) (k := 0) (n := 0) Z137 [11] [0, 1, 2, 3, 4, 5, 6, 7, 8, 9, 10, 12] [] [0, 1] rfl rfl (by decide +kernel) (by decide +kernel) (by decide +kernel) rfl rfl (fun Zc => va_runV (As := []) (rest := []) X (c_isMissing l D h2 0 hv2 H134.size) (cwV 0 hts gX6_lay_X2_isMissing rfl rfl rfl ⟨rfl, zh_X2_isMissing⟩ ⟨Nat.le_of_ble_eq_true rfl, Nat.le_of_ble_eq_true rfl⟩) (zz_pV (ci := 2) Zc 0 rfl rfl) rfl rfl hl133.1 rfl (lv_room (Nat.le_of_ble_eq_true rfl)) dX6_lay_91 ⟨Nat.le_of_ble_eq_true rfl, Nat.le_of_ble_eq_true rfl⟩) rfl rfl (fun r77 u75 H146 locs147 hw76 Z148 => ?_)
              clear Z137
              have hw76 : r77 = 1 := hw76.trans (by decide)
              subst r77
              have Z149 : zz_S D A s [(x, .inr (6, [.ref tx0, .ref nb, .ref tb, .ref ib, .ref ah, .ref tp, .ref rd, .ref sh, .ref sl, .ref wt, .int 0, .int 0, .int 0, .int 0, .int 0])), (nb, .inr (0, [.ref ntx, .ref nst, .ref nct, .int 0, .int 0, .int 3, .int 0, .int 0, .int 10, .int 0, .int 0, .int 0, .int 0, .int 1])), (sl, .inl (ksl, 5, .inr (.inr (.inr (.inr slf))))), (o0, .inr (3, [.int 0, .int 0, .ref oa0, .ref ob0])), (o1, .inr (3, [.int 0, .int 0, .ref oa1, .ref ob1])), (o2, .inr (3, [.int 0, .int 0, .ref oa2, .ref ob2])), (o3, .inr (3, [.int 0, .int 0, .ref oa3, .ref ob3])), (o4, .inr (3, [.int 0, .int 0, .ref oa4, .ref ob4])), (sh, .inl (ksh, 4, .inr (.inr (.inr (.inr shf))))), (h0, .inr (2, [.int (-1), .int 0, .ref hv0])), (h1, .inr (2, [.int (-1), .int 0, .ref hv1])), (h3, .inr (2, [.int (-1), .int 0, .ref hv3])), (h2, .inr (2, [.int (-1), .int 0, .ref hv2]))] [(ksl, .object RX3), (ksh, .object RX2)] H146 locs147 := Z148
              clear Z148
              refine lv_if_eq (tgt := 100) hx hb dX6_lay_94 (by decide) (fun h => absurd h (by decide)) (fun _ => ?_)
              refine lv_ldc (v := (-1000000011)) hx hb hown (hts _ (zz_m 8 rfl)) dX6_lay_97 ?_
              exact zz_iret X hr hlk Z149 () (by simp [sp_lay]) [] [] (by decide +kernel) rfl rfl dX6_lay_99
            · have e68 : k = 3 := e68
              subst e68
              refine zz_v (v := 1) (by decide) ?_
              refine lv_if_ne (tgt := 85) hx hb dX6_lay_79 (by decide) (fun _ => ?_) (fun h => absurd h (by decide))
              refine lv_aload_n hx hb dX6_lay_85 rfl (lv_at hl133 2 rfl) ?_
              refine zz_get X Z137 0 rfl rfl (fun w h => List.mem_cons_of_mem _ (List.mem_append_left _ (List.mem_append_left _ (List.mem_append_left _ (List.mem_append_left _ (List.mem_append_right _ h)))))) 7 rfl (zz_m 7 rfl) rfl dX6_lay_86 ?_
              refine lv_iload_n hx hb dX6_lay_89 rfl (lv_at hl133 5 rfl) ?_
              refine zz_ald X Z137 8 1 rfl rfl (zz_in 3 4 rfl) (v := .ref h3) ashf_3 dX6_lay_90 ?_
              refine zz_ci (WC := [(h3, .inr (2, [.int (-1), .int 0, .ref hv3]))]) (TC := []) (WR := [(x, .inr (6, [.ref tx0, .ref nb, .ref tb, .ref ib, .ref ah, .ref tp, .ref rd, .ref sh, .ref sl, .ref wt, .int 0, .int 0, .int 0, .int 0, .int 0])), (nb, .inr (0, [.ref ntx, .ref nst, .ref nct, .int 0, .int 0, .int 3, .int 0, .int 0, .int 10, .int 0, .int 0, .int 0, .int 0, .int 1])), (sl, .inl (ksl, 5, .inr (.inr (.inr (.inr slf))))), (o0, .inr (3, [.int 0, .int 0, .ref oa0, .ref ob0])), (o1, .inr (3, [.int 0, .int 0, .ref oa1, .ref ob1])), (o2, .inr (3, [.int 0, .int 0, .ref oa2, .ref ob2])), (o3, .inr (3, [.int 0, .int 0, .ref oa3, .ref ob3])), (o4, .inr (3, [.int 0, .int 0, .ref oa4, .ref ob4])), (sh, .inl (ksh, 4, .inr (.inr (.inr (.inr shf))))), (h0, .inr (2, [.int (-1), .int 0, .ref hv0])), (h1, .inr (2, [.int (-1), .int 0, .ref hv1])), (h2, .inr (2, [.int (-1), .int 0, .ref hv2]))]) (TR := [(ksl, .object RX3), (ksh, .object RX2)]) (k := 0) (n := 0) Z137 [12] [0, 1, 2, 3, 4, 5, 6, 7, 8, 9, 10, 11] [] [0, 1] rfl rfl (by decide +kernel) (by decide +kernel) (by decide +kernel) rfl rfl (fun Zc => va_runV (As := []) (rest := []) X (c_isMissing l D h3 0 hv3 H134.size) (cwV 0 hts gX6_lay_X2_isMissing rfl rfl rfl ⟨rfl, zh_X2_isMissing⟩ ⟨Nat.le_of_ble_eq_true rfl, Nat.le_of_ble_eq_true rfl⟩) (zz_pV (ci := 2) Zc 0 rfl rfl) rfl rfl hl133.1 rfl (lv_room (Nat.le_of_ble_eq_true rfl)) dX6_lay_91 ⟨Nat.le_of_ble_eq_true rfl, Nat.le_of_ble_eq_true rfl⟩) rfl rfl (fun r80 u78 H150 locs151 hw79 Z152 => ?_)
              clear Z137
              have hw79 : r80 = 1 := hw79.trans (by decide)
              subst r80
              have Z153 : zz_S D A s [(x, .inr (6, [.ref tx0, .ref nb, .ref tb, .ref ib, .ref ah, .ref tp, .ref rd, .ref sh, .ref sl, .ref wt, .int 0, .int 0, .int 0, .int 0, .int 0])), (nb, .inr (0, [.ref ntx, .ref nst, .ref nct, .int 0, .int 0, .int 3, .int 0, .int 0, .int 10, .int 0, .int 0, .int 0, .int 0, .int 1])), (sl, .inl (ksl, 5, .inr (.inr (.inr (.inr slf))))), (o0, .inr (3, [.int 0, .int 0, .ref oa0, .ref ob0])), (o1, .inr (3, [.int 0, .int 0, .ref oa1, .ref ob1])), (o2, .inr (3, [.int 0, .int 0, .ref oa2, .ref ob2])), (o3, .inr (3, [.int 0, .int 0, .ref oa3, .ref ob3])), (o4, .inr (3, [.int 0, .int 0, .ref oa4, .ref ob4])), (sh, .inl (ksh, 4, .inr (.inr (.inr (.inr shf))))), (h0, .inr (2, [.int (-1), .int 0, .ref hv0])), (h1, .inr (2, [.int (-1), .int 0, .ref hv1])), (h2, .inr (2, [.int (-1), .int 0, .ref hv2])), (h3, .inr (2, [.int (-1), .int 0, .ref hv3]))] [(ksl, .object RX3), (ksh, .object RX2)] H150 locs151 := Z152
              clear Z152
              refine lv_if_eq (tgt := 100) hx hb dX6_lay_94 (by decide) (fun h => absurd h (by decide)) (fun _ => ?_)
              refine lv_ldc (v := (-1000000011)) hx hb hown (hts _ (zz_m 8 rfl)) dX6_lay_97 ?_
              exact zz_iret X hr hlk Z153 () (by simp [sp_lay]) [] [] (by decide +kernel) rfl rfl dX6_lay_99
          · refine zz_v (v := 0) (zz_wiF w67) ?_
            refine lv_if_ne (tgt := 85) hx hb dX6_lay_79 (by decide) (fun h => absurd (by decide) h) (fun _ => ?_)
            refine lv_ldc (v := (-1000000001)) hx hb hown (hts _ (zz_m 1 rfl)) dX6_lay_82 ?_
            exact zz_iret X hr hlk Z137 () (by simp [sp_lay, w67]) [] [] (by decide +kernel) rfl rfl dX6_lay_84
        · have e60 : thing = 3 := e60
          subst e60
          refine zz_v (v := 1) (by decide) ?_
          refine lv_if_ne (tgt := 19) hx hb dX6_lay_13 (by decide) (fun _ => ?_) (fun h => absurd h (by decide))
          refine lv_aload_n hx hb dX6_lay_19 rfl (lv_at hl 0 rfl) ?_
          refine zz_get X Z114 0 rfl rfl (fun w h => List.mem_cons_of_mem _ (List.mem_append_left _ (List.mem_append_left _ (List.mem_append_left _ (List.mem_append_left _ (List.mem_append_right _ h)))))) 8 rfl (zz_m 2 rfl) rfl dX6_lay_20 ?_
          refine lv_iload_n hx hb dX6_lay_23 rfl (lv_at hl 1 rfl) ?_
          refine zz_ald X Z114 2 0 rfl rfl (zz_in 2 5 rfl) (v := .ref o2) aslf_2 dX6_lay_24 ?_
          refine lv_astore (lv' := [(4, .ref o2), (0, .ref x), (1, .int 2), (2, .int 3), (3, .int k)]) hx hb dX6_lay_25 hl (by decide) rfl (fun ls154 hl155 => ?_)
          clear hl
          refine lv_aload hx hb dX6_lay_27 (lv_at hl155 0 rfl) ?_
          refine zz_get X Z114 5 rfl rfl (fun w h => List.mem_cons_of_mem _ (List.mem_append_left _ (List.mem_append_left _ (List.mem_append_left _ (List.mem_append_right _ h))))) 0 rfl (zz_m 3 rfl) rfl dX6_lay_29 ?_
          refine lv_istore (lv' := [(5, .int 0), (4, .ref o2), (0, .ref x), (1, .int 2), (2, .int 3), (3, .int k)]) hx hb dX6_lay_32 hl155 (by decide) rfl (fun ls156 hl157 => ?_)
          clear hl155
          refine lv_iload_n hx hb dX6_lay_34 rfl (lv_at hl157 4 rfl) ?_
          refine lv_iconst (v := 1) hx hb dX6_lay_35 (by decide) ?_
          refine lv_icmp_ne (tgt := 70) hx hb dX6_lay_36 (by decide) (fun _ => ?_) (fun h => absurd h (by decide))
          refine lv_iload_n hx hb dX6_lay_70 rfl (lv_at hl157 4 rfl) ?_
          refine lv_iconst (v := 2) hx hb dX6_lay_71 (by decide) ?_
          refine lv_icmp_ne (tgt := 117) hx hb dX6_lay_72 (by decide) (fun _ => ?_) (fun h => absurd h (by decide))
          refine lv_iload_n hx hb dX6_lay_117 rfl (lv_at hl157 4 rfl) ?_
          refine lv_iconst (v := 3) hx hb dX6_lay_118 (by decide) ?_
          refine lv_icmp_ne (tgt := 128) hx hb dX6_lay_119 (by decide) (fun h => absurd (by decide) h) (fun _ => ?_)
          refine lv_aload hx hb dX6_lay_122 (lv_at hl157 1 rfl) ?_
          refine lv_iload_n hx hb dX6_lay_124 rfl (lv_at hl157 5 rfl) ?_
          refine zz_put (WS' := [(x, .inr (6, [.ref tx0, .ref nb, .ref tb, .ref ib, .ref ah, .ref tp, .ref rd, .ref sh, .ref sl, .ref wt, .int 0, .int 0, .int 0, .int 0, .int 0])), (nb, .inr (0, [.ref ntx, .ref nst, .ref nct, .int 0, .int 0, .int 3, .int 0, .int 0, .int 10, .int 0, .int 0, .int 0, .int 0, .int 1])), (sl, .inl (ksl, 5, .inr (.inr (.inr (.inr slf))))), (o0, .inr (3, [.int 0, .int 0, .ref oa0, .ref ob0])), (o1, .inr (3, [.int 0, .int 0, .ref oa1, .ref ob1])), (o2, .inr (3, [.int 0, .int k, .ref oa2, .ref ob2])), (o3, .inr (3, [.int 0, .int 0, .ref oa3, .ref ob3])), (o4, .inr (3, [.int 0, .int 0, .ref oa4, .ref ob4])), (sh, .inl (ksh, 4, .inr (.inr (.inr (.inr shf))))), (h0, .inr (2, [.int (-1), .int 0, .ref hv0])), (h1, .inr (2, [.int (-1), .int 0, .ref hv1])), (h2, .inr (2, [.int (-1), .int 0, .ref hv2])), (h3, .inr (2, [.int (-1), .int 0, .ref hv3]))]) X Z114 5 rfl rfl (fun w h => List.mem_cons_of_mem _ (List.mem_append_left _ (List.mem_append_left _ (List.mem_append_left _ (List.mem_append_right _ h))))) tyX3 tyX3_ok nmX3 1 rfl (zz_m 10 rfl) rfl rfl rfl rfl dX6_lay_125 rfl (fun H158 locs159 Z160 => ?_)
          clear Z114
          refine lv_aload hx hb dX6_lay_128 (lv_at hl157 1 rfl) ?_
          refine lv_iload_n hx hb dX6_lay_130 rfl (lv_at hl157 4 rfl) ?_
          refine zz_put (WS' := [(x, .inr (6, [.ref tx0, .ref nb, .ref tb, .ref ib, .ref ah, .ref tp, .ref rd, .ref sh, .ref sl, .ref wt, .int 0, .int 0, .int 0, .int 0, .int 0])), (nb, .inr (0, [.ref ntx, .ref nst, .ref nct, .int 0, .int 0, .int 3, .int 0, .int 0, .int 10, .int 0, .int 0, .int 0, .int 0, .int 1])), (sl, .inl (ksl, 5, .inr (.inr (.inr (.inr slf))))), (o0, .inr (3, [.int 0, .int 0, .ref oa0, .ref ob0])), (o1, .inr (3, [.int 0, .int 0, .ref oa1, .ref ob1])), (o2, .inr (3, [.int 3, .int k, .ref oa2, .ref ob2])), (o3, .inr (3, [.int 0, .int 0, .ref oa3, .ref ob3])), (o4, .inr (3, [.int 0, .int 0, .ref oa4, .ref ob4])), (sh, .inl (ksh, 4, .inr (.inr (.inr (.inr shf))))), (h0, .inr (2, [.int (-1), .int 0, .ref hv0])), (h1, .inr (2, [.int (-1), .int 0, .ref hv1])), (h2, .inr (2, [.int (-1), .int 0, .ref hv2])), (h3, .inr (2, [.int (-1), .int 0, .ref hv3]))]) X Z160 5 rfl rfl (fun w h => List.mem_cons_of_mem _ (List.mem_append_left _ (List.mem_append_left _ (List.mem_append_left _ (List.mem_append_right _ h))))) tyX3 tyX3_ok nmX3 0 rfl (zz_m 3 rfl) rfl rfl rfl rfl dX6_lay_131 rfl (fun H161 locs162 Z163 => ?_)
          clear Z160
          refine lv_iload hx hb dX6_lay_134 (lv_at hl157 0 rfl) ?_
          exact zz_iret X hr hlk Z163 () (by simp [sp_lay]) [] [] (by decide +kernel) rfl rfl dX6_lay_136
      · refine zz_v (v := 0) (zz_wiF w59) ?_
        refine lv_if_ne (tgt := 19) hx hb dX6_lay_13 (by decide) (fun h => absurd (by decide) h) (fun _ => ?_)
        refine lv_ldc (v := (-1000000001)) hx hb hown (hts _ (zz_m 1 rfl)) dX6_lay_16 ?_
        exact zz_iret X hr hlk Z114 () (by simp [sp_lay, w59]) [] [] (by decide +kernel) rfl rfl dX6_lay_18
    · have e5 : slot = 3 := e5
      subst e5
      refine zz_v (v := 1) (by decide) ?_
      refine lv_if_eq (tgt := 16) hx hb dX6_lay_4 (by decide) (fun h => absurd h (by decide)) (fun _ => ?_)
      refine lv_iload_n hx hb dX6_lay_7 rfl (lv_at hl 2 rfl) ?_
      refine lv_iconst (v := 0) hx hb dX6_lay_8 (by decide) ?_
      refine lv_iconst (v := 3) hx hb dX6_lay_9 (by decide) ?_
      refine zz_ci (WC := []) (TC := []) (WR := [(x, .inr (6, [.ref tx0, .ref nb, .ref tb, .ref ib, .ref ah, .ref tp, .ref rd, .ref sh, .ref sl, .ref wt, .int 0, .int 0, .int 0, .int 0, .int 0])), (nb, .inr (0, [.ref ntx, .ref nst, .ref nct, .int 0, .int 0, .int 3, .int 0, .int 0, .int 10, .int 0, .int 0, .int 0, .int 0, .int 1])), (sl, .inl (ksl, 5, .inr (.inr (.inr (.inr slf))))), (o0, .inr (3, [.int 0, .int 0, .ref oa0, .ref ob0])), (o1, .inr (3, [.int 0, .int 0, .ref oa1, .ref ob1])), (o2, .inr (3, [.int 0, .int 0, .ref oa2, .ref ob2])), (o3, .inr (3, [.int 0, .int 0, .ref oa3, .ref ob3])), (o4, .inr (3, [.int 0, .int 0, .ref oa4, .ref ob4])), (sh, .inl (ksh, 4, .inr (.inr (.inr (.inr shf))))), (h0, .inr (2, [.int (-1), .int 0, .ref hv0])), (h1, .inr (2, [.int (-1), .int 0, .ref hv1])), (h2, .inr (2, [.int (-1), .int 0, .ref hv2])), (h3, .inr (2, [.int (-1), .int 0, .ref hv3]))]) (TR := [(ksl, .object RX3), (ksh, .object RX2)]) (k := 0) (n := 0) Z4 [] [0, 1, 2, 3, 4, 5, 6, 7, 8, 9, 10, 11, 12] [] [0, 1] rfl rfl (by decide +kernel) (by decide +kernel) (by decide +kernel) rfl rfl (fun Zc => va_runS (As := [.int thing, .int 0, .int 3]) (rest := []) X (c_within l D thing 0 3 H1.size) (va_cwS 3 hts gX6_lay_X6_within rfl rfl rfl zh_X6_within ⟨Nat.le_of_ble_eq_true rfl, Nat.le_of_ble_eq_true rfl⟩) (zz_pS Zc) rfl rfl hl.1 rfl (lv_room (Nat.le_of_ble_eq_true rfl)) dX6_lay_10 ⟨Nat.le_of_ble_eq_true rfl, Nat.le_of_ble_eq_true rfl⟩) rfl rfl (fun r83 u81 H164 locs165 hw82 Z166 => ?_)
      clear Z4
      subst r83
      have Z167 : zz_S D A s [(x, .inr (6, [.ref tx0, .ref nb, .ref tb, .ref ib, .ref ah, .ref tp, .ref rd, .ref sh, .ref sl, .ref wt, .int 0, .int 0, .int 0, .int 0, .int 0])), (nb, .inr (0, [.ref ntx, .ref nst, .ref nct, .int 0, .int 0, .int 3, .int 0, .int 0, .int 10, .int 0, .int 0, .int 0, .int 0, .int 1])), (sl, .inl (ksl, 5, .inr (.inr (.inr (.inr slf))))), (o0, .inr (3, [.int 0, .int 0, .ref oa0, .ref ob0])), (o1, .inr (3, [.int 0, .int 0, .ref oa1, .ref ob1])), (o2, .inr (3, [.int 0, .int 0, .ref oa2, .ref ob2])), (o3, .inr (3, [.int 0, .int 0, .ref oa3, .ref ob3])), (o4, .inr (3, [.int 0, .int 0, .ref oa4, .ref ob4])), (sh, .inl (ksh, 4, .inr (.inr (.inr (.inr shf))))), (h0, .inr (2, [.int (-1), .int 0, .ref hv0])), (h1, .inr (2, [.int (-1), .int 0, .ref hv1])), (h2, .inr (2, [.int (-1), .int 0, .ref hv2])), (h3, .inr (2, [.int (-1), .int 0, .ref hv3]))] [(ksl, .object RX3), (ksh, .object RX2)] H164 locs165 := Z166
      clear Z166
      by_cases w84 : 0 ≤ thing ∧ thing ≤ 3
      · obtain ⟨j, hj, e85⟩ := zz_rng 3 w84 (by decide)
        rcases (show j = 0 ∨ j = 1 ∨ j = 2 ∨ j = 3 by omega) with rfl | rfl | rfl | rfl
        · have e85 : thing = 0 := e85
          subst e85
          refine zz_v (v := 1) (by decide) ?_
          refine lv_if_ne (tgt := 19) hx hb dX6_lay_13 (by decide) (fun _ => ?_) (fun h => absurd h (by decide))
          refine lv_aload_n hx hb dX6_lay_19 rfl (lv_at hl 0 rfl) ?_
          refine zz_get X Z167 0 rfl rfl (fun w h => List.mem_cons_of_mem _ (List.mem_append_left _ (List.mem_append_left _ (List.mem_append_left _ (List.mem_append_left _ (List.mem_append_right _ h)))))) 8 rfl (zz_m 2 rfl) rfl dX6_lay_20 ?_
          refine lv_iload_n hx hb dX6_lay_23 rfl (lv_at hl 1 rfl) ?_
          refine zz_ald X Z167 2 0 rfl rfl (zz_in 3 5 rfl) (v := .ref o3) aslf_3 dX6_lay_24 ?_
          refine lv_astore (lv' := [(4, .ref o3), (0, .ref x), (1, .int 3), (2, .int 0), (3, .int k)]) hx hb dX6_lay_25 hl (by decide) rfl (fun ls168 hl169 => ?_)
          clear hl
          refine lv_aload hx hb dX6_lay_27 (lv_at hl169 0 rfl) ?_
          refine zz_get X Z167 6 rfl rfl (fun w h => List.mem_cons_of_mem _ (List.mem_append_left _ (List.mem_append_left _ (List.mem_append_left _ (List.mem_append_right _ h))))) 0 rfl (zz_m 3 rfl) rfl dX6_lay_29 ?_
          refine lv_istore (lv' := [(5, .int 0), (4, .ref o3), (0, .ref x), (1, .int 3), (2, .int 0), (3, .int k)]) hx hb dX6_lay_32 hl169 (by decide) rfl (fun ls170 hl171 => ?_)
          clear hl169
          refine lv_iload_n hx hb dX6_lay_34 rfl (lv_at hl171 4 rfl) ?_
          refine lv_iconst (v := 1) hx hb dX6_lay_35 (by decide) ?_
          refine lv_icmp_ne (tgt := 70) hx hb dX6_lay_36 (by decide) (fun _ => ?_) (fun h => absurd h (by decide))
          refine lv_iload_n hx hb dX6_lay_70 rfl (lv_at hl171 4 rfl) ?_
          refine lv_iconst (v := 2) hx hb dX6_lay_71 (by decide) ?_
          refine lv_icmp_ne (tgt := 117) hx hb dX6_lay_72 (by decide) (fun _ => ?_) (fun h => absurd h (by decide))
          refine lv_iload_n hx hb dX6_lay_117 rfl (lv_at hl171 4 rfl) ?_
          refine lv_iconst (v := 3) hx hb dX6_lay_118 (by decide) ?_
          refine lv_icmp_ne (tgt := 128) hx hb dX6_lay_119 (by decide) (fun _ => ?_) (fun h => absurd h (by decide))
          refine lv_aload hx hb dX6_lay_128 (lv_at hl171 1 rfl) ?_
          refine lv_iload_n hx hb dX6_lay_130 rfl (lv_at hl171 4 rfl) ?_
          refine zz_put (WS' := [(x, .inr (6, [.ref tx0, .ref nb, .ref tb, .ref ib, .ref ah, .ref tp, .ref rd, .ref sh, .ref sl, .ref wt, .int 0, .int 0, .int 0, .int 0, .int 0])), (nb, .inr (0, [.ref ntx, .ref nst, .ref nct, .int 0, .int 0, .int 3, .int 0, .int 0, .int 10, .int 0, .int 0, .int 0, .int 0, .int 1])), (sl, .inl (ksl, 5, .inr (.inr (.inr (.inr slf))))), (o0, .inr (3, [.int 0, .int 0, .ref oa0, .ref ob0])), (o1, .inr (3, [.int 0, .int 0, .ref oa1, .ref ob1])), (o2, .inr (3, [.int 0, .int 0, .ref oa2, .ref ob2])), (o3, .inr (3, [.int 0, .int 0, .ref oa3, .ref ob3])), (o4, .inr (3, [.int 0, .int 0, .ref oa4, .ref ob4])), (sh, .inl (ksh, 4, .inr (.inr (.inr (.inr shf))))), (h0, .inr (2, [.int (-1), .int 0, .ref hv0])), (h1, .inr (2, [.int (-1), .int 0, .ref hv1])), (h2, .inr (2, [.int (-1), .int 0, .ref hv2])), (h3, .inr (2, [.int (-1), .int 0, .ref hv3]))]) X Z167 6 rfl rfl (fun w h => List.mem_cons_of_mem _ (List.mem_append_left _ (List.mem_append_left _ (List.mem_append_left _ (List.mem_append_right _ h))))) tyX3 tyX3_ok nmX3 0 rfl (zz_m 3 rfl) rfl rfl rfl rfl dX6_lay_131 rfl (fun H172 locs173 Z174 => ?_)
          clear Z167
          refine lv_iload hx hb dX6_lay_134 (lv_at hl171 0 rfl) ?_
          exact zz_iret X hr hlk Z174 () (by simp [sp_lay]) [] [] (by decide +kernel) rfl rfl dX6_lay_136
        · have e85 : thing = 1 := e85
          subst e85
          refine zz_v (v := 1) (by decide) ?_
          refine lv_if_ne (tgt := 19) hx hb dX6_lay_13 (by decide) (fun _ => ?_) (fun h => absurd h (by decide))
          refine lv_aload_n hx hb dX6_lay_19 rfl (lv_at hl 0 rfl) ?_
          refine zz_get X Z167 0 rfl rfl (fun w h => List.mem_cons_of_mem _ (List.mem_append_left _ (List.mem_append_left _ (List.mem_append_left _ (List.mem_append_left _ (List.mem_append_right _ h)))))) 8 rfl (zz_m 2 rfl) rfl dX6_lay_20 ?_
          refine lv_iload_n hx hb dX6_lay_23 rfl (lv_at hl 1 rfl) ?_
          refine zz_ald X Z167 2 0 rfl rfl (zz_in 3 5 rfl) (v := .ref o3) aslf_3 dX6_lay_24 ?_
          refine lv_astore (lv' := [(4, .ref o3), (0, .ref x), (1, .int 3), (2, .int 1), (3, .int k)]) hx hb dX6_lay_25 hl (by decide) rfl (fun ls175 hl176 => ?_)
          clear hl
          refine lv_aload hx hb dX6_lay_27 (lv_at hl176 0 rfl) ?_
          refine zz_get X Z167 6 rfl rfl (fun w h => List.mem_cons_of_mem _ (List.mem_append_left _ (List.mem_append_left _ (List.mem_append_left _ (List.mem_append_right _ h))))) 0 rfl (zz_m 3 rfl) rfl dX6_lay_29 ?_
          refine lv_istore (lv' := [(5, .int 0), (4, .ref o3), (0, .ref x), (1, .int 3), (2, .int 1), (3, .int k)]) hx hb dX6_lay_32 hl176 (by decide) rfl (fun ls177 hl178 => ?_)
          clear hl176
          refine lv_iload_n hx hb dX6_lay_34 rfl (lv_at hl178 4 rfl) ?_
          refine lv_iconst (v := 1) hx hb dX6_lay_35 (by decide) ?_
          refine lv_icmp_ne (tgt := 70) hx hb dX6_lay_36 (by decide) (fun h => absurd (by decide) h) (fun _ => ?_)
          refine lv_aload_n hx hb dX6_lay_39 rfl (lv_at hl178 2 rfl) ?_
          refine lv_iload_n hx hb dX6_lay_40 rfl (lv_at hl178 5 rfl) ?_
          refine zz_ci (WC := [(x, .inr (6, [.ref tx0, .ref nb, .ref tb, .ref ib, .ref ah, .ref tp, .ref rd, .ref sh, .ref sl, .ref wt, .int 0, .int 0, .int 0, .int 0, .int 0])), (nb, .inr (0, [.ref ntx, .ref nst, .ref nct, .int 0, .int 0, .int 3, .int 0, .int 0, .int 10, .int 0, .int 0, .int 0, .int 0, .int 1]))]) (TC := []) (WR := [(sl, .inl (ksl, 5, .inr (.inr (.inr (.inr slf))))), (o0, .inr (3, [.int 0, .int 0, .ref oa0, .ref ob0])), (o1, .inr (3, [.int 0, .int 0, .ref oa1, .ref ob1])), (o2, .inr (3, [.int 0, .int 0, .ref oa2, .ref ob2])), (o3, .inr (3, [.int 0, .int 0, .ref oa3, .ref ob3])), (o4, .inr (3, [.int 0, .int 0, .ref oa4, .ref ob4])), (sh, .inl (ksh, 4, .inr (.inr (.inr (.inr shf))))), (h0, .inr (2, [.int (-1), .int 0, .ref hv0])), (h1, .inr (2, [.int (-1), .int 0, .ref hv1])), (h2, .inr (2, [.int (-1), .int 0, .ref hv2])), (h3, .inr (2, [.int (-1), .int 0, .ref hv3]))]) (TR := [(ksl, .object RX3), (ksh, .object RX2)]) (k := 0) (n := 0) Z167 [0, 1] [2, 3, 4, 5, 6, 7, 8, 9, 10, 11, 12] [] [0, 1] rfl rfl (by decide +kernel) (by decide +kernel) (by decide +kernel) rfl rfl (fun Zc => va_runV (As := [.int k]) (rest := []) X (c_isStall l D x tx0 nb tb ib ah tp rd sh sl wt ntx nst nct k H164.size) (cwV 1 hts gX6_lay_X6_isStall rfl rfl rfl ⟨rfl, zh_X6_isStall⟩ ⟨Nat.le_of_ble_eq_true rfl, Nat.le_of_ble_eq_true rfl⟩) (zz_pV (ci := 6) Zc 0 rfl rfl) rfl rfl hl178.1 rfl (lv_room (Nat.le_of_ble_eq_true rfl)) dX6_lay_41 ⟨Nat.le_of_ble_eq_true rfl, Nat.le_of_ble_eq_true rfl⟩) rfl rfl (fun r88 u86 H179 locs180 hw87 Z181 => ?_)
          clear Z167
          have hw87 : r88 = 0 := hw87.trans (by decide)
          subst r88
          have Z182 : zz_S D A s [(sl, .inl (ksl, 5, .inr (.inr (.inr (.inr slf))))), (o0, .inr (3, [.int 0, .int 0, .ref oa0, .ref ob0])), (o1, .inr (3, [.int 0, .int 0, .ref oa1, .ref ob1])), (o2, .inr (3, [.int 0, .int 0, .ref oa2, .ref ob2])), (o3, .inr (3, [.int 0, .int 0, .ref oa3, .ref ob3])), (o4, .inr (3, [.int 0, .int 0, .ref oa4, .ref ob4])), (sh, .inl (ksh, 4, .inr (.inr (.inr (.inr shf))))), (h0, .inr (2, [.int (-1), .int 0, .ref hv0])), (h1, .inr (2, [.int (-1), .int 0, .ref hv1])), (h2, .inr (2, [.int (-1), .int 0, .ref hv2])), (h3, .inr (2, [.int (-1), .int 0, .ref hv3])), (x, .inr (6, [.ref tx0, .ref nb, .ref tb, .ref ib, .ref ah, .ref tp, .ref rd, .ref sh, .ref sl, .ref wt, .int 0, .int 0, .int 0, .int 0, .int 0])), (nb, .inr (0, [.ref ntx, .ref nst, .ref nct, .int 0, .int 0, .int 3, .int 0, .int 0, .int 10, .int 0, .int 0, .int 0, .int 0, .int 1]))] [(ksl, .object RX3), (ksh, .object RX2)] H179 locs180 := Z181
          clear Z181
          refine lv_if_ne (tgt := 50) hx hb dX6_lay_44 (by decide) (fun h => absurd (by decide) h) (fun _ => ?_)
          refine lv_ldc (v := (-1000000001)) hx hb hown (hts _ (zz_m 1 rfl)) dX6_lay_47 ?_
          exact zz_iret X hr hlk Z182 () (by simp [sp_lay]) [] [] (by decide +kernel) rfl rfl dX6_lay_49
        · have e85 : thing = 2 := e85
          subst e85
          refine zz_v (v := 1) (by decide) ?_
          refine lv_if_ne (tgt := 19) hx hb dX6_lay_13 (by decide) (fun _ => ?_) (fun h => absurd h (by decide))
          refine lv_aload_n hx hb dX6_lay_19 rfl (lv_at hl 0 rfl) ?_
          refine zz_get X Z167 0 rfl rfl (fun w h => List.mem_cons_of_mem _ (List.mem_append_left _ (List.mem_append_left _ (List.mem_append_left _ (List.mem_append_left _ (List.mem_append_right _ h)))))) 8 rfl (zz_m 2 rfl) rfl dX6_lay_20 ?_
          refine lv_iload_n hx hb dX6_lay_23 rfl (lv_at hl 1 rfl) ?_
          refine zz_ald X Z167 2 0 rfl rfl (zz_in 3 5 rfl) (v := .ref o3) aslf_3 dX6_lay_24 ?_
          refine lv_astore (lv' := [(4, .ref o3), (0, .ref x), (1, .int 3), (2, .int 2), (3, .int k)]) hx hb dX6_lay_25 hl (by decide) rfl (fun ls183 hl184 => ?_)
          clear hl
          refine lv_aload hx hb dX6_lay_27 (lv_at hl184 0 rfl) ?_
          refine zz_get X Z167 6 rfl rfl (fun w h => List.mem_cons_of_mem _ (List.mem_append_left _ (List.mem_append_left _ (List.mem_append_left _ (List.mem_append_right _ h))))) 0 rfl (zz_m 3 rfl) rfl dX6_lay_29 ?_
          refine lv_istore (lv' := [(5, .int 0), (4, .ref o3), (0, .ref x), (1, .int 3), (2, .int 2), (3, .int k)]) hx hb dX6_lay_32 hl184 (by decide) rfl (fun ls185 hl186 => ?_)
          clear hl184
          refine lv_iload_n hx hb dX6_lay_34 rfl (lv_at hl186 4 rfl) ?_
          refine lv_iconst (v := 1) hx hb dX6_lay_35 (by decide) ?_
          refine lv_icmp_ne (tgt := 70) hx hb dX6_lay_36 (by decide) (fun _ => ?_) (fun h => absurd h (by decide))
          refine lv_iload_n hx hb dX6_lay_70 rfl (lv_at hl186 4 rfl) ?_
          refine lv_iconst (v := 2) hx hb dX6_lay_71 (by decide) ?_
          refine lv_icmp_ne (tgt := 117) hx hb dX6_lay_72 (by decide) (fun h => absurd (by decide) h) (fun _ => ?_)
          refine lv_iload_n hx hb dX6_lay_75 rfl (lv_at hl186 5 rfl) ?_
          refine zz_ci (WC := []) (TC := []) (WR := [(x, .inr (6, [.ref tx0, .ref nb, .ref tb, .ref ib, .ref ah, .ref tp, .ref rd, .ref sh, .ref sl, .ref wt, .int 0, .int 0, .int 0, .int 0, .int 0])), (nb, .inr (0, [.ref ntx, .ref nst, .ref nct, .int 0, .int 0, .int 3, .int 0, .int 0, .int 10, .int 0, .int 0, .int 0, .int 0, .int 1])), (sl, .inl (ksl, 5, .inr (.inr (.inr (.inr slf))))), (o0, .inr (3, [.int 0, .int 0, .ref oa0, .ref ob0])), (o1, .inr (3, [.int 0, .int 0, .ref oa1, .ref ob1])), (o2, .inr (3, [.int 0, .int 0, .ref oa2, .ref ob2])), (o3, .inr (3, [.int 0, .int 0, .ref oa3, .ref ob3])), (o4, .inr (3, [.int 0, .int 0, .ref oa4, .ref ob4])), (sh, .inl (ksh, 4, .inr (.inr (.inr (.inr shf))))), (h0, .inr (2, [.int (-1), .int 0, .ref hv0])), (h1, .inr (2, [.int (-1), .int 0, .ref hv1])), (h2, .inr (2, [.int (-1), .int 0, .ref hv2])), (h3, .inr (2, [.int (-1), .int 0, .ref hv3]))]) (TR := [(ksl, .object RX3), (ksh, .object RX2)]) (k := 0) (n := 0) Z167 [] [0, 1, 2, 3, 4, 5, 6, 7, 8, 9, 10, 11, 12] [] [0, 1] rfl rfl (by decide +kernel) (by decide +kernel) (by decide +kernel) rfl rfl (fun Zc => va_runS (As := [.int k]) (rest := []) X (c_isSheet l D k H164.size) (va_cwS 1 hts gX6_lay_X6_isSheet rfl rfl rfl zh_X6_isSheet ⟨Nat.le_of_ble_eq_true rfl, Nat.le_of_ble_eq_true rfl⟩) (zz_pS Zc) rfl rfl hl186.1 rfl (lv_room (Nat.le_of_ble_eq_true rfl)) dX6_lay_76 ⟨Nat.le_of_ble_eq_true rfl, Nat.le_of_ble_eq_true rfl⟩) rfl rfl (fun r91 u89 H187 locs188 hw90 Z189 => ?_)
          clear Z167
          subst r91
          have Z190 : zz_S D A s [(x, .inr (6, [.ref tx0, .ref nb, .ref tb, .ref ib, .ref ah, .ref tp, .ref rd, .ref sh, .ref sl, .ref wt, .int 0, .int 0, .int 0, .int 0, .int 0])), (nb, .inr (0, [.ref ntx, .ref nst, .ref nct, .int 0, .int 0, .int 3, .int 0, .int 0, .int 10, .int 0, .int 0, .int 0, .int 0, .int 1])), (sl, .inl (ksl, 5, .inr (.inr (.inr (.inr slf))))), (o0, .inr (3, [.int 0, .int 0, .ref oa0, .ref ob0])), (o1, .inr (3, [.int 0, .int 0, .ref oa1, .ref ob1])), (o2, .inr (3, [.int 0, .int 0, .ref oa2, .ref ob2])), (o3, .inr (3, [.int 0, .int 0, .ref oa3, .ref ob3])), (o4, .inr (3, [.int 0, .int 0, .ref oa4, .ref ob4])), (sh, .inl (ksh, 4, .inr (.inr (.inr (.inr shf))))), (h0, .inr (2, [.int (-1), .int 0, .ref hv0])), (h1, .inr (2, [.int (-1), .int 0, .ref hv1])), (h2, .inr (2, [.int (-1), .int 0, .ref hv2])), (h3, .inr (2, [.int (-1), .int 0, .ref hv3]))] [(ksl, .object RX3), (ksh, .object RX2)] H187 locs188 := Z189
          clear Z189
          by_cases w92 : 0 ≤ k ∧ k ≤ 3
          · obtain ⟨j, hj, e93⟩ := zz_rng 3 w92 (by decide)
            rcases (show j = 0 ∨ j = 1 ∨ j = 2 ∨ j = 3 by omega) with rfl | rfl | rfl | rfl
            · have e93 : k = 0 := e93
              subst e93
              refine zz_v (v := 1) (by decide) ?_
              refine lv_if_ne (tgt := 85) hx hb dX6_lay_79 (by decide) (fun _ => ?_) (fun h => absurd h (by decide))
              refine lv_aload_n hx hb dX6_lay_85 rfl (lv_at hl186 2 rfl) ?_
              refine zz_get X Z190 0 rfl rfl (fun w h => List.mem_cons_of_mem _ (List.mem_append_left _ (List.mem_append_left _ (List.mem_append_left _ (List.mem_append_left _ (List.mem_append_right _ h)))))) 7 rfl (zz_m 7 rfl) rfl dX6_lay_86 ?_
              refine lv_iload_n hx hb dX6_lay_89 rfl (lv_at hl186 5 rfl) ?_
              refine zz_ald X Z190 8 1 rfl rfl (zz_in 0 4 rfl) (v := .ref h0) ashf_0 dX6_lay_90 ?_
              refine zz_ci (WC := [(h0, .inr (2, [.int (-1), .int 0, .ref hv0]))]) (TC := []) (WR := [(x, .inr (6, [.ref tx0, .ref nb, .ref tb, .ref ib, .ref ah, .ref tp, .ref rd, .ref sh, .ref sl, .ref wt, .int 0, .int 0, .int 0, .int 0, .int 0])), (nb, .inr (0, [.ref ntx, .ref nst, .ref nct, .int 0, .int 0, .int 3, .int 0, .int 0, .int 10, .int 0, .int 0, .int 0, .int 0, .int 1])), (sl, .inl (ksl, 5, .inr (.inr (.inr (.inr slf))))), (o0, .inr (3, [.int 0, .int 0, .ref oa0, .ref ob0])), (o1, .inr (3, [.int 0, .int 0, .ref oa1, .ref ob1])), (o2, .inr (3, [.int 0, .int 0, .ref oa2, .ref ob2])), (o3, .inr (3, [.int 0, .int 0, .ref oa3, .ref ob3])), (o4, .inr (3, [.int 0, .int 0, .ref oa4, .ref ob4])), (sh, .inl (ksh, 4, .inr (.inr (.inr (.inr shf))))), (h1, .inr (2, [.int (-1), .int 0, .ref hv1])), (h2, .inr (2, [.int (-1), .int 0, .ref hv2])), (h3, .inr (2, [.int (-1), .int 0, .ref hv3]))]) (TR := [(ksl, .object RX3), (ksh, .object RX2)]) (k := 0) (n := 0) Z190 [9] [0, 1, 2, 3, 4, 5, 6, 7, 8, 10, 11, 12] [] [0, 1] rfl rfl (by decide +kernel) (by decide +kernel) (by decide +kernel) rfl rfl (fun Zc => va_runV (As := []) (rest := []) X (c_isMissing l D h0 0 hv0 H187.size) (cwV 0 hts gX6_lay_X2_isMissing rfl rfl rfl ⟨rfl, zh_X2_isMissing⟩ ⟨Nat.le_of_ble_eq_true rfl, Nat.le_of_ble_eq_true rfl⟩) (zz_pV (ci := 2) Zc 0 rfl rfl) rfl rfl hl186.1 rfl (lv_room (Nat.le_of_ble_eq_true rfl)) dX6_lay_91 ⟨Nat.le_of_ble_eq_true rfl, Nat.le_of_ble_eq_true rfl⟩) rfl rfl (fun r96 u94 H191 locs192 hw95 Z193 => ?_)
              clear Z190
              have hw95 : r96 = 1 := hw95.trans (by decide)
              subst r96
              have Z194 : zz_S D A s [(x, .inr (6, [.ref tx0, .ref nb, .ref tb, .ref ib, .ref ah, .ref tp, .ref rd, .ref sh, .ref sl, .ref wt, .int 0, .int 0, .int 0, .int 0, .int 0])), (nb, .inr (0, [.ref ntx, .ref nst, .ref nct, .int 0, .int 0, .int 3, .int 0, .int 0, .int 10, .int 0, .int 0, .int 0, .int 0, .int 1])), (sl, .inl (ksl, 5, .inr (.inr (.inr (.inr slf))))), (o0, .inr (3, [.int 0, .int 0, .ref oa0, .ref ob0])), (o1, .inr (3, [.int 0, .int 0, .ref oa1, .ref ob1])), (o2, .inr (3, [.int 0, .int 0, .ref oa2, .ref ob2])), (o3, .inr (3, [.int 0, .int 0, .ref oa3, .ref ob3])), (o4, .inr (3, [.int 0, .int 0, .ref oa4, .ref ob4])), (sh, .inl (ksh, 4, .inr (.inr (.inr (.inr shf))))), (h1, .inr (2, [.int (-1), .int 0, .ref hv1])), (h2, .inr (2, [.int (-1), .int 0, .ref hv2])), (h3, .inr (2, [.int (-1), .int 0, .ref hv3])), (h0, .inr (2, [.int (-1), .int 0, .ref hv0]))] [(ksl, .object RX3), (ksh, .object RX2)] H191 locs192 := Z193
              clear Z193
              refine lv_if_eq (tgt := 100) hx hb dX6_lay_94 (by decide) (fun h => absurd h (by decide)) (fun _ => ?_)
              refine lv_ldc (v := (-1000000011)) hx hb hown (hts _ (zz_m 8 rfl)) dX6_lay_97 ?_
              exact zz_iret X hr hlk Z194 () (by simp [sp_lay]) [] [] (by decide +kernel) rfl rfl dX6_lay_99
            · have e93 : k = 1 := e93
              subst e93
              refine zz_v (v := 1) (by decide) ?_
              refine lv_if_ne (tgt := 85) hx hb dX6_lay_79 (by decide) (fun _ => ?_) (fun h => absurd h (by decide))
              refine lv_aload_n hx hb dX6_lay_85 rfl (lv_at hl186 2 rfl) ?_
              refine zz_get X Z190 0 rfl rfl (fun w h => List.mem_cons_of_mem _ (List.mem_append_left _ (List.mem_append_left _ (List.mem_append_left _ (List.mem_append_left _ (List.mem_append_right _ h)))))) 7 rfl (zz_m 7 rfl) rfl dX6_lay_86 ?_
              refine lv_iload_n hx hb dX6_lay_89 rfl (lv_at hl186 5 rfl) ?_
              refine zz_ald X Z190 8 1 rfl rfl (zz_in 1 4 rfl) (v := .ref h1) ashf_1 dX6_lay_90 ?_
              refine zz_ci (WC := [(h1, .inr (2, [.int (-1), .int 0, .ref hv1]))]) (TC := []) (WR := [(x, .inr (6, [.ref tx0, .ref nb, .ref tb, .ref ib, .ref ah, .ref tp, .ref rd, .ref sh, .ref sl, .ref wt, .int 0, .int 0, .int 0, .int 0, .int 0])), (nb, .inr (0, [.ref ntx, .ref nst, .ref nct, .int 0, .int 0, .int 3, .int 0, .int 0, .int 10, .int 0, .int 0, .int 0, .int 0, .int 1])), (sl, .inl (ksl, 5, .inr (.inr (.inr (.inr slf))))), (o0, .inr (3, [.int 0, .int 0, .ref oa0, .ref ob0])), (o1, .inr (3, [.int 0, .int 0, .ref oa1, .ref ob1])), (o2, .inr (3, [.int 0, .int 0, .ref oa2, .ref ob2])), (o3, .inr (3, [.int 0, .int 0, .ref oa3, .ref ob3])), (o4, .inr (3, [.int 0, .int 0, .ref oa4, .ref ob4])), (sh, .inl (ksh, 4, .inr (.inr (.inr (.inr shf))))), (h0, .inr (2, [.int (-1), .int 0, .ref hv0])), (h2, .inr (2, [.int (-1), .int 0, .ref hv2])), (h3, .inr (2, [.int (-1), .int 0, .ref hv3]))]) (TR := [(ksl, .object RX3), (ksh, .object RX2)]) (k := 0) (n := 0) Z190 [10] [0, 1, 2, 3, 4, 5, 6, 7, 8, 9, 11, 12] [] [0, 1] rfl rfl (by decide +kernel) (by decide +kernel) (by decide +kernel) rfl rfl (fun Zc => va_runV (As := []) (rest := []) X (c_isMissing l D h1 0 hv1 H187.size) (cwV 0 hts gX6_lay_X2_isMissing rfl rfl rfl ⟨rfl, zh_X2_isMissing⟩ ⟨Nat.le_of_ble_eq_true rfl, Nat.le_of_ble_eq_true rfl⟩) (zz_pV (ci := 2) Zc 0 rfl rfl) rfl rfl hl186.1 rfl (lv_room (Nat.le_of_ble_eq_true rfl)) dX6_lay_91 ⟨Nat.le_of_ble_eq_true rfl, Nat.le_of_ble_eq_true rfl⟩) rfl rfl (fun r99 u97 H195 locs196 hw98 Z197 => ?_)
              clear Z190
              have hw98 : r99 = 1 := hw98.trans (by decide)
              subst r99
              have Z198 : zz_S D A s [(x, .inr (6, [.ref tx0, .ref nb, .ref tb, .ref ib, .ref ah, .ref tp, .ref rd, .ref sh, .ref sl, .ref wt, .int 0, .int 0, .int 0, .int 0, .int 0])), (nb, .inr (0, [.ref ntx, .ref nst, .ref nct, .int 0, .int 0, .int 3, .int 0, .int 0, .int 10, .int 0, .int 0, .int 0, .int 0, .int 1])), (sl, .inl (ksl, 5, .inr (.inr (.inr (.inr slf))))), (o0, .inr (3, [.int 0, .int 0, .ref oa0, .ref ob0])), (o1, .inr (3, [.int 0, .int 0, .ref oa1, .ref ob1])), (o2, .inr (3, [.int 0, .int 0, .ref oa2, .ref ob2])), (o3, .inr (3, [.int 0, .int 0, .ref oa3, .ref ob3])), (o4, .inr (3, [.int 0, .int 0, .ref oa4, .ref ob4])), (sh, .inl (ksh, 4, .inr (.inr (.inr (.inr shf))))), (h0, .inr (2, [.int (-1), .int 0, .ref hv0])), (h2, .inr (2, [.int (-1), .int 0, .ref hv2])), (h3, .inr (2, [.int (-1), .int 0, .ref hv3])), (h1, .inr (2, [.int (-1), .int 0, .ref hv1]))] [(ksl, .object RX3), (ksh, .object RX2)] H195 locs196 := Z197
              clear Z197
              refine lv_if_eq (tgt := 100) hx hb dX6_lay_94 (by decide) (fun h => absurd h (by decide)) (fun _ => ?_)
              refine lv_ldc (v := (-1000000011)) hx hb hown (hts _ (zz_m 8 rfl)) dX6_lay_97 ?_
              exact zz_iret X hr hlk Z198 () (by simp [sp_lay]) [] [] (by decide +kernel) rfl rfl dX6_lay_99
            · have e93 : k = 2 := e93
              subst e93
              refine zz_v (v := 1) (by decide) ?_
              refine lv_if_ne (tgt := 85) hx hb dX6_lay_79 (by decide) (fun _ => ?_) (fun h => absurd h (by decide))
              refine lv_aload_n hx hb dX6_lay_85 rfl (lv_at hl186 2 rfl) ?_
              refine zz_get X Z190 0 rfl rfl (fun w h => List.mem_cons_of_mem _ (List.mem_append_left _ (List.mem_append_left _ (List.mem_append_left _ (List.mem_append_left _ (List.mem_append_right _ h)))))) 7 rfl (zz_m 7 rfl) rfl dX6_lay_86 ?_
              refine lv_iload_n hx hb dX6_lay_89 rfl (lv_at hl186 5 rfl) ?_
              refine zz_ald X Z190 8 1 rfl rfl (zz_in 2 4 rfl) (v := .ref h2) ashf_2 dX6_lay_90 ?_
              refine zz_ci (WC := [(h2, .inr (2, [.int (-1), .int 0, .ref hv2]))]) (TC := []) (WR := [(x, .inr (6, [.ref tx0, .ref nb, .ref tb, .ref ib, .ref ah, .ref tp, .ref rd, .ref sh, .ref sl, .ref wt, .int 0, .int 0, .int 0, .int 0, .int 0])), (nb, .inr (0, [.ref ntx, .ref nst, .ref nct, .int 0, .int 0, .int 3, .int 0, .int 0, .int 10, .int 0, .int 0, .int 0, .int 0, .int 1])), (sl, .inl (ksl, 5, .inr (.inr (.inr (.inr slf))))), (o0, .inr (3, [.int 0, .int 0, .ref oa0, .ref ob0])), (o1, .inr (3, [.int 0, .int 0, .ref oa1, .ref ob1])), (o2, .inr (3, [.int 0, .int 0, .ref oa2, .ref ob2])), (o3, .inr (3, [.int 0, .int 0, .ref oa3, .ref ob3])), (o4, .inr (3, [.int 0, .int 0, .ref oa4, .ref ob4])), (sh, .inl (ksh, 4, .inr (.inr (.inr (.inr shf))))), (h0, .inr (2, [.int (-1), .int 0, .ref hv0])), (h1, .inr (2, [.int (-1), .int 0, .ref hv1])), (h3, .inr (2, [.int (-1), .int 0, .ref hv3]))]) (TR := [(ksl, .object RX3), (ksh, .object RX2)]) (k := 0) (n := 0) Z190 [11] [0, 1, 2, 3, 4, 5, 6, 7, 8, 9, 10, 12] [] [0, 1] rfl rfl (by decide +kernel) (by decide +kernel) (by decide +kernel) rfl rfl (fun Zc => va_runV (As := []) (rest := []) X (c_isMissing l D h2 0 hv2 H187.size) (cwV 0 hts gX6_lay_X2_isMissing rfl rfl rfl ⟨rfl, zh_X2_isMissing⟩ ⟨Nat.le_of_ble_eq_true rfl, Nat.le_of_ble_eq_true rfl⟩) (zz_pV (ci := 2) Zc 0 rfl rfl) rfl rfl hl186.1 rfl (lv_room (Nat.le_of_ble_eq_true rfl)) dX6_lay_91 ⟨Nat.le_of_ble_eq_true rfl, Nat.le_of_ble_eq_true rfl⟩) rfl rfl (fun r102 u100 H199 locs200 hw101 Z201 => ?_)
              clear Z190
              have hw101 : r102 = 1 := hw101.trans (by decide)
              subst r102
              have Z202 : zz_S D A s [(x, .inr (6, [.ref tx0, .ref nb, .ref tb, .ref ib, .ref ah, .ref tp, .ref rd, .ref sh, .ref sl, .ref wt, .int 0, .int 0, .int 0, .int 0, .int 0])), (nb, .inr (0, [.ref ntx, .ref nst, .ref nct, .int 0, .int 0, .int 3, .int 0, .int 0, .int 10, .int 0, .int 0, .int 0, .int 0, .int 1])), (sl, .inl (ksl, 5, .inr (.inr (.inr (.inr slf))))), (o0, .inr (3, [.int 0, .int 0, .ref oa0, .ref ob0])), (o1, .inr (3, [.int 0, .int 0, .ref oa1, .ref ob1])), (o2, .inr (3, [.int 0, .int 0, .ref oa2, .ref ob2])), (o3, .inr (3, [.int 0, .int 0, .ref oa3, .ref ob3])), (o4, .inr (3, [.int 0, .int 0, .ref oa4, .ref ob4])), (sh, .inl (ksh, 4, .inr (.inr (.inr (.inr shf))))), (h0, .inr (2, [.int (-1), .int 0, .ref hv0])), (h1, .inr (2, [.int (-1), .int 0, .ref hv1])), (h3, .inr (2, [.int (-1), .int 0, .ref hv3])), (h2, .inr (2, [.int (-1), .int 0, .ref hv2]))] [(ksl, .object RX3), (ksh, .object RX2)] H199 locs200 := Z201
              clear Z201
              refine lv_if_eq (tgt := 100) hx hb dX6_lay_94 (by decide) (fun h => absurd h (by decide)) (fun _ => ?_)
              refine lv_ldc (v := (-1000000011)) hx hb hown (hts _ (zz_m 8 rfl)) dX6_lay_97 ?_
              exact zz_iret X hr hlk Z202 () (by simp [sp_lay]) [] [] (by decide +kernel) rfl rfl dX6_lay_99
            · have e93 : k = 3 := e93
              subst e93
              refine zz_v (v := 1) (by decide) ?_
              refine lv_if_ne (tgt := 85) hx hb dX6_lay_79 (by decide) (fun _ => ?_) (fun h => absurd h (by decide))
              refine lv_aload_n hx hb dX6_lay_85 rfl (lv_at hl186 2 rfl) ?_
              refine zz_get X Z190 0 rfl rfl (fun w h => List.mem_cons_of_mem _ (List.mem_append_left _ (List.mem_append_left _ (List.mem_append_left _ (List.mem_append_left _ (List.mem_append_right _ h)))))) 7 rfl (zz_m 7 rfl) rfl dX6_lay_86 ?_
              refine lv_iload_n hx hb dX6_lay_89 rfl (lv_at hl186 5 rfl) ?_
              refine zz_ald X Z190 8 1 rfl rfl (zz_in 3 4 rfl) (v := .ref h3) ashf_3 dX6_lay_90 ?_
              refine zz_ci (WC := [(h3, .inr (2, [.int (-1), .int 0, .ref hv3]))]) (TC := []) (WR := [(x, .inr (6, [.ref tx0, .ref nb, .ref tb, .ref ib, .ref ah, .ref tp, .ref rd, .ref sh, .ref sl, .ref wt, .int 0, .int 0, .int 0, .int 0, .int 0])), (nb, .inr (0, [.ref ntx, .ref nst, .ref nct, .int 0, .int 0, .int 3, .int 0, .int 0, .int 10, .int 0, .int 0, .int 0, .int 0, .int 1])), (sl, .inl (ksl, 5, .inr (.inr (.inr (.inr slf))))), (o0, .inr (3, [.int 0, .int 0, .ref oa0, .ref ob0])), (o1, .inr (3, [.int 0, .int 0, .ref oa1, .ref ob1])), (o2, .inr (3, [.int 0, .int 0, .ref oa2, .ref ob2])), (o3, .inr (3, [.int 0, .int 0, .ref oa3, .ref ob3])), (o4, .inr (3, [.int 0, .int 0, .ref oa4, .ref ob4])), (sh, .inl (ksh, 4, .inr (.inr (.inr (.inr shf))))), (h0, .inr (2, [.int (-1), .int 0, .ref hv0])), (h1, .inr (2, [.int (-1), .int 0, .ref hv1])), (h2, .inr (2, [.int (-1), .int 0, .ref hv2]))]) (TR := [(ksl, .object RX3), (ksh, .object RX2)]) (k := 0) (n := 0) Z190 [12] [0, 1, 2, 3, 4, 5, 6, 7, 8, 9, 10, 11] [] [0, 1] rfl rfl (by decide +kernel) (by decide +kernel) (by decide +kernel) rfl rfl (fun Zc => va_runV (As := []) (rest := []) X (c_isMissing l D h3 0 hv3 H187.size) (cwV 0 hts gX6_lay_X2_isMissing rfl rfl rfl ⟨rfl, zh_X2_isMissing⟩ ⟨Nat.le_of_ble_eq_true rfl, Nat.le_of_ble_eq_true rfl⟩) (zz_pV (ci := 2) Zc 0 rfl rfl) rfl rfl hl186.1 rfl (lv_room (Nat.le_of_ble_eq_true rfl)) dX6_lay_91 ⟨Nat.le_of_ble_eq_true rfl, Nat.le_of_ble_eq_true rfl⟩) rfl rfl (fun r105 u103 H203 locs204 hw104 Z205 => ?_)
              clear Z190
              have hw104 : r105 = 1 := hw104.trans (by decide)
              subst r105
              have Z206 : zz_S D A s [(x, .inr (6, [.ref tx0, .ref nb, .ref tb, .ref ib, .ref ah, .ref tp, .ref rd, .ref sh, .ref sl, .ref wt, .int 0, .int 0, .int 0, .int 0, .int 0])), (nb, .inr (0, [.ref ntx, .ref nst, .ref nct, .int 0, .int 0, .int 3, .int 0, .int 0, .int 10, .int 0, .int 0, .int 0, .int 0, .int 1])), (sl, .inl (ksl, 5, .inr (.inr (.inr (.inr slf))))), (o0, .inr (3, [.int 0, .int 0, .ref oa0, .ref ob0])), (o1, .inr (3, [.int 0, .int 0, .ref oa1, .ref ob1])), (o2, .inr (3, [.int 0, .int 0, .ref oa2, .ref ob2])), (o3, .inr (3, [.int 0, .int 0, .ref oa3, .ref ob3])), (o4, .inr (3, [.int 0, .int 0, .ref oa4, .ref ob4])), (sh, .inl (ksh, 4, .inr (.inr (.inr (.inr shf))))), (h0, .inr (2, [.int (-1), .int 0, .ref hv0])), (h1, .inr (2, [.int (-1), .int 0, .ref hv1])), (h2, .inr (2, [.int (-1), .int 0, .ref hv2])), (h3, .inr (2, [.int (-1), .int 0, .ref hv3]))] [(ksl, .object RX3), (ksh, .object RX2)] H203 locs204 := Z205
              clear Z205
              refine lv_if_eq (tgt := 100) hx hb dX6_lay_94 (by decide) (fun h => absurd h (by decide)) (fun _ => ?_)
              refine lv_ldc (v := (-1000000011)) hx hb hown (hts _ (zz_m 8 rfl)) dX6_lay_97 ?_
              exact zz_iret X hr hlk Z206 () (by simp [sp_lay]) [] [] (by decide +kernel) rfl rfl dX6_lay_99
          · refine zz_v (v := 0) (zz_wiF w92) ?_
            refine lv_if_ne (tgt := 85) hx hb dX6_lay_79 (by decide) (fun h => absurd (by decide) h) (fun _ => ?_)
            refine lv_ldc (v := (-1000000001)) hx hb hown (hts _ (zz_m 1 rfl)) dX6_lay_82 ?_
            exact zz_iret X hr hlk Z190 () (by simp [sp_lay, w92]) [] [] (by decide +kernel) rfl rfl dX6_lay_84
        · have e85 : thing = 3 := e85
          subst e85
          refine zz_v (v := 1) (by decide) ?_
          refine lv_if_ne (tgt := 19) hx hb dX6_lay_13 (by decide) (fun _ => ?_) (fun h => absurd h (by decide))
          refine lv_aload_n hx hb dX6_lay_19 rfl (lv_at hl 0 rfl) ?_
          refine zz_get X Z167 0 rfl rfl (fun w h => List.mem_cons_of_mem _ (List.mem_append_left _ (List.mem_append_left _ (List.mem_append_left _ (List.mem_append_left _ (List.mem_append_right _ h)))))) 8 rfl (zz_m 2 rfl) rfl dX6_lay_20 ?_
          refine lv_iload_n hx hb dX6_lay_23 rfl (lv_at hl 1 rfl) ?_
          refine zz_ald X Z167 2 0 rfl rfl (zz_in 3 5 rfl) (v := .ref o3) aslf_3 dX6_lay_24 ?_
          refine lv_astore (lv' := [(4, .ref o3), (0, .ref x), (1, .int 3), (2, .int 3), (3, .int k)]) hx hb dX6_lay_25 hl (by decide) rfl (fun ls207 hl208 => ?_)
          clear hl
          refine lv_aload hx hb dX6_lay_27 (lv_at hl208 0 rfl) ?_
          refine zz_get X Z167 6 rfl rfl (fun w h => List.mem_cons_of_mem _ (List.mem_append_left _ (List.mem_append_left _ (List.mem_append_left _ (List.mem_append_right _ h))))) 0 rfl (zz_m 3 rfl) rfl dX6_lay_29 ?_
          refine lv_istore (lv' := [(5, .int 0), (4, .ref o3), (0, .ref x), (1, .int 3), (2, .int 3), (3, .int k)]) hx hb dX6_lay_32 hl208 (by decide) rfl (fun ls209 hl210 => ?_)
          clear hl208
          refine lv_iload_n hx hb dX6_lay_34 rfl (lv_at hl210 4 rfl) ?_
          refine lv_iconst (v := 1) hx hb dX6_lay_35 (by decide) ?_
          refine lv_icmp_ne (tgt := 70) hx hb dX6_lay_36 (by decide) (fun _ => ?_) (fun h => absurd h (by decide))
          refine lv_iload_n hx hb dX6_lay_70 rfl (lv_at hl210 4 rfl) ?_
          refine lv_iconst (v := 2) hx hb dX6_lay_71 (by decide) ?_
          refine lv_icmp_ne (tgt := 117) hx hb dX6_lay_72 (by decide) (fun _ => ?_) (fun h => absurd h (by decide))
          refine lv_iload_n hx hb dX6_lay_117 rfl (lv_at hl210 4 rfl) ?_
          refine lv_iconst (v := 3) hx hb dX6_lay_118 (by decide) ?_
          refine lv_icmp_ne (tgt := 128) hx hb dX6_lay_119 (by decide) (fun h => absurd (by decide) h) (fun _ => ?_)
          refine lv_aload hx hb dX6_lay_122 (lv_at hl210 1 rfl) ?_
          refine lv_iload_n hx hb dX6_lay_124 rfl (lv_at hl210 5 rfl) ?_
          refine zz_put (WS' := [(x, .inr (6, [.ref tx0, .ref nb, .ref tb, .ref ib, .ref ah, .ref tp, .ref rd, .ref sh, .ref sl, .ref wt, .int 0, .int 0, .int 0, .int 0, .int 0])), (nb, .inr (0, [.ref ntx, .ref nst, .ref nct, .int 0, .int 0, .int 3, .int 0, .int 0, .int 10, .int 0, .int 0, .int 0, .int 0, .int 1])), (sl, .inl (ksl, 5, .inr (.inr (.inr (.inr slf))))), (o0, .inr (3, [.int 0, .int 0, .ref oa0, .ref ob0])), (o1, .inr (3, [.int 0, .int 0, .ref oa1, .ref ob1])), (o2, .inr (3, [.int 0, .int 0, .ref oa2, .ref ob2])), (o3, .inr (3, [.int 0, .int k, .ref oa3, .ref ob3])), (o4, .inr (3, [.int 0, .int 0, .ref oa4, .ref ob4])), (sh, .inl (ksh, 4, .inr (.inr (.inr (.inr shf))))), (h0, .inr (2, [.int (-1), .int 0, .ref hv0])), (h1, .inr (2, [.int (-1), .int 0, .ref hv1])), (h2, .inr (2, [.int (-1), .int 0, .ref hv2])), (h3, .inr (2, [.int (-1), .int 0, .ref hv3]))]) X Z167 6 rfl rfl (fun w h => List.mem_cons_of_mem _ (List.mem_append_left _ (List.mem_append_left _ (List.mem_append_left _ (List.mem_append_right _ h))))) tyX3 tyX3_ok nmX3 1 rfl (zz_m 10 rfl) rfl rfl rfl rfl dX6_lay_125 rfl (fun H211 locs212 Z213 => ?_)
          clear Z167
          refine lv_aload hx hb dX6_lay_128 (lv_at hl210 1 rfl) ?_
          refine lv_iload_n hx hb dX6_lay_130 rfl (lv_at hl210 4 rfl) ?_
          refine zz_put (WS' := [(x, .inr (6, [.ref tx0, .ref nb, .ref tb, .ref ib, .ref ah, .ref tp, .ref rd, .ref sh, .ref sl, .ref wt, .int 0, .int 0, .int 0, .int 0, .int 0])), (nb, .inr (0, [.ref ntx, .ref nst, .ref nct, .int 0, .int 0, .int 3, .int 0, .int 0, .int 10, .int 0, .int 0, .int 0, .int 0, .int 1])), (sl, .inl (ksl, 5, .inr (.inr (.inr (.inr slf))))), (o0, .inr (3, [.int 0, .int 0, .ref oa0, .ref ob0])), (o1, .inr (3, [.int 0, .int 0, .ref oa1, .ref ob1])), (o2, .inr (3, [.int 0, .int 0, .ref oa2, .ref ob2])), (o3, .inr (3, [.int 3, .int k, .ref oa3, .ref ob3])), (o4, .inr (3, [.int 0, .int 0, .ref oa4, .ref ob4])), (sh, .inl (ksh, 4, .inr (.inr (.inr (.inr shf))))), (h0, .inr (2, [.int (-1), .int 0, .ref hv0])), (h1, .inr (2, [.int (-1), .int 0, .ref hv1])), (h2, .inr (2, [.int (-1), .int 0, .ref hv2])), (h3, .inr (2, [.int (-1), .int 0, .ref hv3]))]) X Z213 6 rfl rfl (fun w h => List.mem_cons_of_mem _ (List.mem_append_left _ (List.mem_append_left _ (List.mem_append_left _ (List.mem_append_right _ h))))) tyX3 tyX3_ok nmX3 0 rfl (zz_m 3 rfl) rfl rfl rfl rfl dX6_lay_131 rfl (fun H214 locs215 Z216 => ?_)
          clear Z213
          refine lv_iload hx hb dX6_lay_134 (lv_at hl210 0 rfl) ?_
          exact zz_iret X hr hlk Z216 () (by simp [sp_lay]) [] [] (by decide +kernel) rfl rfl dX6_lay_136
      · refine zz_v (v := 0) (zz_wiF w84) ?_
        refine lv_if_ne (tgt := 19) hx hb dX6_lay_13 (by decide) (fun h => absurd (by decide) h) (fun _ => ?_)
        refine lv_ldc (v := (-1000000001)) hx hb hown (hts _ (zz_m 1 rfl)) dX6_lay_16 ?_
        exact zz_iret X hr hlk Z167 () (by simp [sp_lay, w84]) [] [] (by decide +kernel) rfl rfl dX6_lay_18
    · have e5 : slot = 4 := e5
      subst e5
      refine zz_v (v := 1) (by decide) ?_
      refine lv_if_eq (tgt := 16) hx hb dX6_lay_4 (by decide) (fun h => absurd h (by decide)) (fun _ => ?_)
      refine lv_iload_n hx hb dX6_lay_7 rfl (lv_at hl 2 rfl) ?_
      refine lv_iconst (v := 0) hx hb dX6_lay_8 (by decide) ?_
      refine lv_iconst (v := 3) hx hb dX6_lay_9 (by decide) ?_
      refine zz_ci (WC := []) (TC := []) (WR := [(x, .inr (6, [.ref tx0, .ref nb, .ref tb, .ref ib, .ref ah, .ref tp, .ref rd, .ref sh, .ref sl, .ref wt, .int 0, .int 0, .int 0, .int 0, .int 0])), (nb, .inr (0, [.ref ntx, .ref nst, .ref nct, .int 0, .int 0, .int 3, .int 0, .int 0, .int 10, .int 0, .int 0, .int 0, .int 0, .int 1])), (sl, .inl (ksl, 5, .inr (.inr (.inr (.inr slf))))), (o0, .inr (3, [.int 0, .int 0, .ref oa0, .ref ob0])), (o1, .inr (3, [.int 0, .int 0, .ref oa1, .ref ob1])), (o2, .inr (3, [.int 0, .int 0, .ref oa2, .ref ob2])), (o3, .inr (3, [.int 0, .int 0, .ref oa3, .ref ob3])), (o4, .inr (3, [.int 0, .int 0, .ref oa4, .ref ob4])), (sh, .inl (ksh, 4, .inr (.inr (.inr (.inr shf))))), (h0, .inr (2, [.int (-1), .int 0, .ref hv0])), (h1, .inr (2, [.int (-1), .int 0, .ref hv1])), (h2, .inr (2, [.int (-1), .int 0, .ref hv2])), (h3, .inr (2, [.int (-1), .int 0, .ref hv3]))]) (TR := [(ksl, .object RX3), (ksh, .object RX2)]) (k := 0) (n := 0) Z4 [] [0, 1, 2, 3, 4, 5, 6, 7, 8, 9, 10, 11, 12] [] [0, 1] rfl rfl (by decide +kernel) (by decide +kernel) (by decide +kernel) rfl rfl (fun Zc => va_runS (As := [.int thing, .int 0, .int 3]) (rest := []) X (c_within l D thing 0 3 H1.size) (va_cwS 3 hts gX6_lay_X6_within rfl rfl rfl zh_X6_within ⟨Nat.le_of_ble_eq_true rfl, Nat.le_of_ble_eq_true rfl⟩) (zz_pS Zc) rfl rfl hl.1 rfl (lv_room (Nat.le_of_ble_eq_true rfl)) dX6_lay_10 ⟨Nat.le_of_ble_eq_true rfl, Nat.le_of_ble_eq_true rfl⟩) rfl rfl (fun r108 u106 H217 locs218 hw107 Z219 => ?_)
      clear Z4
      subst r108
      have Z220 : zz_S D A s [(x, .inr (6, [.ref tx0, .ref nb, .ref tb, .ref ib, .ref ah, .ref tp, .ref rd, .ref sh, .ref sl, .ref wt, .int 0, .int 0, .int 0, .int 0, .int 0])), (nb, .inr (0, [.ref ntx, .ref nst, .ref nct, .int 0, .int 0, .int 3, .int 0, .int 0, .int 10, .int 0, .int 0, .int 0, .int 0, .int 1])), (sl, .inl (ksl, 5, .inr (.inr (.inr (.inr slf))))), (o0, .inr (3, [.int 0, .int 0, .ref oa0, .ref ob0])), (o1, .inr (3, [.int 0, .int 0, .ref oa1, .ref ob1])), (o2, .inr (3, [.int 0, .int 0, .ref oa2, .ref ob2])), (o3, .inr (3, [.int 0, .int 0, .ref oa3, .ref ob3])), (o4, .inr (3, [.int 0, .int 0, .ref oa4, .ref ob4])), (sh, .inl (ksh, 4, .inr (.inr (.inr (.inr shf))))), (h0, .inr (2, [.int (-1), .int 0, .ref hv0])), (h1, .inr (2, [.int (-1), .int 0, .ref hv1])), (h2, .inr (2, [.int (-1), .int 0, .ref hv2])), (h3, .inr (2, [.int (-1), .int 0, .ref hv3]))] [(ksl, .object RX3), (ksh, .object RX2)] H217 locs218 := Z219
      clear Z219
      by_cases w109 : 0 ≤ thing ∧ thing ≤ 3
      · obtain ⟨j, hj, e110⟩ := zz_rng 3 w109 (by decide)
        rcases (show j = 0 ∨ j = 1 ∨ j = 2 ∨ j = 3 by omega) with rfl | rfl | rfl | rfl
        · have e110 : thing = 0 := e110
          subst e110
          refine zz_v (v := 1) (by decide) ?_
          refine lv_if_ne (tgt := 19) hx hb dX6_lay_13 (by decide) (fun _ => ?_) (fun h => absurd h (by decide))
          refine lv_aload_n hx hb dX6_lay_19 rfl (lv_at hl 0 rfl) ?_
          refine zz_get X Z220 0 rfl rfl (fun w h => List.mem_cons_of_mem _ (List.mem_append_left _ (List.mem_append_left _ (List.mem_append_left _ (List.mem_append_left _ (List.mem_append_right _ h)))))) 8 rfl (zz_m 2 rfl) rfl dX6_lay_20 ?_
          refine lv_iload_n hx hb dX6_lay_23 rfl (lv_at hl 1 rfl) ?_
          refine zz_ald X Z220 2 0 rfl rfl (zz_in 4 5 rfl) (v := .ref o4) aslf_4 dX6_lay_24 ?_
          refine lv_astore (lv' := [(4, .ref o4), (0, .ref x), (1, .int 4), (2, .int 0), (3, .int k)]) hx hb dX6_lay_25 hl (by decide) rfl (fun ls221 hl222 => ?_)
          clear hl
          refine lv_aload hx hb dX6_lay_27 (lv_at hl222 0 rfl) ?_
          refine zz_get X Z220 7 rfl rfl (fun w h => List.mem_cons_of_mem _ (List.mem_append_left _ (List.mem_append_left _ (List.mem_append_left _ (List.mem_append_right _ h))))) 0 rfl (zz_m 3 rfl) rfl dX6_lay_29 ?_
          refine lv_istore (lv' := [(5, .int 0), (4, .ref o4), (0, .ref x), (1, .int 4), (2, .int 0), (3, .int k)]) hx hb dX6_lay_32 hl222 (by decide) rfl (fun ls223 hl224 => ?_)
          clear hl222
          refine lv_iload_n hx hb dX6_lay_34 rfl (lv_at hl224 4 rfl) ?_
          refine lv_iconst (v := 1) hx hb dX6_lay_35 (by decide) ?_
          refine lv_icmp_ne (tgt := 70) hx hb dX6_lay_36 (by decide) (fun _ => ?_) (fun h => absurd h (by decide))
          refine lv_iload_n hx hb dX6_lay_70 rfl (lv_at hl224 4 rfl) ?_
          refine lv_iconst (v := 2) hx hb dX6_lay_71 (by decide) ?_
          refine lv_icmp_ne (tgt := 117) hx hb dX6_lay_72 (by decide) (fun _ => ?_) (fun h => absurd h (by decide))
          refine lv_iload_n hx hb dX6_lay_117 rfl (lv_at hl224 4 rfl) ?_
          refine lv_iconst (v := 3) hx hb dX6_lay_118 (by decide) ?_
          refine lv_icmp_ne (tgt := 128) hx hb dX6_lay_119 (by decide) (fun _ => ?_) (fun h => absurd h (by decide))
          refine lv_aload hx hb dX6_lay_128 (lv_at hl224 1 rfl) ?_
          refine lv_iload_n hx hb dX6_lay_130 rfl (lv_at hl224 4 rfl) ?_
          refine zz_put (WS' := [(x, .inr (6, [.ref tx0, .ref nb, .ref tb, .ref ib, .ref ah, .ref tp, .ref rd, .ref sh, .ref sl, .ref wt, .int 0, .int 0, .int 0, .int 0, .int 0])), (nb, .inr (0, [.ref ntx, .ref nst, .ref nct, .int 0, .int 0, .int 3, .int 0, .int 0, .int 10, .int 0, .int 0, .int 0, .int 0, .int 1])), (sl, .inl (ksl, 5, .inr (.inr (.inr (.inr slf))))), (o0, .inr (3, [.int 0, .int 0, .ref oa0, .ref ob0])), (o1, .inr (3, [.int 0, .int 0, .ref oa1, .ref ob1])), (o2, .inr (3, [.int 0, .int 0, .ref oa2, .ref ob2])), (o3, .inr (3, [.int 0, .int 0, .ref oa3, .ref ob3])), (o4, .inr (3, [.int 0, .int 0, .ref oa4, .ref ob4])), (sh, .inl (ksh, 4, .inr (.inr (.inr (.inr shf))))), (h0, .inr (2, [.int (-1), .int 0, .ref hv0])), (h1, .inr (2, [.int (-1), .int 0, .ref hv1])), (h2, .inr (2, [.int (-1), .int 0, .ref hv2])), (h3, .inr (2, [.int (-1), .int 0, .ref hv3]))]) X Z220 7 rfl rfl (fun w h => List.mem_cons_of_mem _ (List.mem_append_left _ (List.mem_append_left _ (List.mem_append_left _ (List.mem_append_right _ h))))) tyX3 tyX3_ok nmX3 0 rfl (zz_m 3 rfl) rfl rfl rfl rfl dX6_lay_131 rfl (fun H225 locs226 Z227 => ?_)
          clear Z220
          refine lv_iload hx hb dX6_lay_134 (lv_at hl224 0 rfl) ?_
          exact zz_iret X hr hlk Z227 () (by simp [sp_lay]) [] [] (by decide +kernel) rfl rfl dX6_lay_136
        · have e110 : thing = 1 := e110
          subst e110
          refine zz_v (v := 1) (by decide) ?_
          refine lv_if_ne (tgt := 19) hx hb dX6_lay_13 (by decide) (fun _ => ?_) (fun h => absurd h (by decide))
          refine lv_aload_n hx hb dX6_lay_19 rfl (lv_at hl 0 rfl) ?_
          refine zz_get X Z220 0 rfl rfl (fun w h => List.mem_cons_of_mem _ (List.mem_append_left _ (List.mem_append_left _ (List.mem_append_left _ (List.mem_append_left _ (List.mem_append_right _ h)))))) 8 rfl (zz_m 2 rfl) rfl dX6_lay_20 ?_
          refine lv_iload_n hx hb dX6_lay_23 rfl (lv_at hl 1 rfl) ?_
          refine zz_ald X Z220 2 0 rfl rfl (zz_in 4 5 rfl) (v := .ref o4) aslf_4 dX6_lay_24 ?_
          refine lv_astore (lv' := [(4, .ref o4), (0, .ref x), (1, .int 4), (2, .int 1), (3, .int k)]) hx hb dX6_lay_25 hl (by decide) rfl (fun ls228 hl229 => ?_)
          clear hl
          refine lv_aload hx hb dX6_lay_27 (lv_at hl229 0 rfl) ?_
          refine zz_get X Z220 7 rfl rfl (fun w h => List.mem_cons_of_mem _ (List.mem_append_left _ (List.mem_append_left _ (List.mem_append_left _ (List.mem_append_right _ h))))) 0 rfl (zz_m 3 rfl) rfl dX6_lay_29 ?_
          refine lv_istore (lv' := [(5, .int 0), (4, .ref o4), (0, .ref x), (1, .int 4), (2, .int 1), (3, .int k)]) hx hb dX6_lay_32 hl229 (by decide) rfl (fun ls230 hl231 => ?_)
          clear hl229
          refine lv_iload_n hx hb dX6_lay_34 rfl (lv_at hl231 4 rfl) ?_
          refine lv_iconst (v := 1) hx hb dX6_lay_35 (by decide) ?_
          refine lv_icmp_ne (tgt := 70) hx hb dX6_lay_36 (by decide) (fun h => absurd (by decide) h) (fun _ => ?_)
          refine lv_aload_n hx hb dX6_lay_39 rfl (lv_at hl231 2 rfl) ?_
          refine lv_iload_n hx hb dX6_lay_40 rfl (lv_at hl231 5 rfl) ?_
          refine zz_ci (WC := [(x, .inr (6, [.ref tx0, .ref nb, .ref tb, .ref ib, .ref ah, .ref tp, .ref rd, .ref sh, .ref sl, .ref wt, .int 0, .int 0, .int 0, .int 0, .int 0])), (nb, .inr (0, [.ref ntx, .ref nst, .ref nct, .int 0, .int 0, .int 3, .int 0, .int 0, .int 10, .int 0, .int 0, .int 0, .int 0, .int 1]))]) (TC := []) (WR := [(sl, .inl (ksl, 5, .inr (.inr (.inr (.inr slf))))), (o0, .inr (3, [.int 0, .int 0, .ref oa0, .ref ob0])), (o1, .inr (3, [.int 0, .int 0, .ref oa1, .ref ob1])), (o2, .inr (3, [.int 0, .int 0, .ref oa2, .ref ob2])), (o3, .inr (3, [.int 0, .int 0, .ref oa3, .ref ob3])), (o4, .inr (3, [.int 0, .int 0, .ref oa4, .ref ob4])), (sh, .inl (ksh, 4, .inr (.inr (.inr (.inr shf))))), (h0, .inr (2, [.int (-1), .int 0, .ref hv0])), (h1, .inr (2, [.int (-1), .int 0, .ref hv1])), (h2, .inr (2, [.int (-1), .int 0, .ref hv2])), (h3, .inr (2, [.int (-1), .int 0, .ref hv3]))]) (TR := [(ksl, .object RX3), (ksh, .object RX2)]) (k := 0) (n := 0) Z220 [0, 1] [2, 3, 4, 5, 6, 7, 8, 9, 10, 11, 12] [] [0, 1] rfl rfl (by decide +kernel) (by decide +kernel) (by decide +kernel) rfl rfl (fun Zc => va_runV (As := [.int k]) (rest := []) X (c_isStall l D x tx0 nb tb ib ah tp rd sh sl wt ntx nst nct k H217.size) (cwV 1 hts gX6_lay_X6_isStall rfl rfl rfl ⟨rfl, zh_X6_isStall⟩ ⟨Nat.le_of_ble_eq_true rfl, Nat.le_of_ble_eq_true rfl⟩) (zz_pV (ci := 6) Zc 0 rfl rfl) rfl rfl hl231.1 rfl (lv_room (Nat.le_of_ble_eq_true rfl)) dX6_lay_41 ⟨Nat.le_of_ble_eq_true rfl, Nat.le_of_ble_eq_true rfl⟩) rfl rfl (fun r113 u111 H232 locs233 hw112 Z234 => ?_)
          clear Z220
          have hw112 : r113 = 0 := hw112.trans (by decide)
          subst r113
          have Z235 : zz_S D A s [(sl, .inl (ksl, 5, .inr (.inr (.inr (.inr slf))))), (o0, .inr (3, [.int 0, .int 0, .ref oa0, .ref ob0])), (o1, .inr (3, [.int 0, .int 0, .ref oa1, .ref ob1])), (o2, .inr (3, [.int 0, .int 0, .ref oa2, .ref ob2])), (o3, .inr (3, [.int 0, .int 0, .ref oa3, .ref ob3])), (o4, .inr (3, [.int 0, .int 0, .ref oa4, .ref ob4])), (sh, .inl (ksh, 4, .inr (.inr (.inr (.inr shf))))), (h0, .inr (2, [.int (-1), .int 0, .ref hv0])), (h1, .inr (2, [.int (-1), .int 0, .ref hv1])), (h2, .inr (2, [.int (-1), .int 0, .ref hv2])), (h3, .inr (2, [.int (-1), .int 0, .ref hv3])), (x, .inr (6, [.ref tx0, .ref nb, .ref tb, .ref ib, .ref ah, .ref tp, .ref rd, .ref sh, .ref sl, .ref wt, .int 0, .int 0, .int 0, .int 0, .int 0])), (nb, .inr (0, [.ref ntx, .ref nst, .ref nct, .int 0, .int 0, .int 3, .int 0, .int 0, .int 10, .int 0, .int 0, .int 0, .int 0, .int 1]))] [(ksl, .object RX3), (ksh, .object RX2)] H232 locs233 := Z234
          clear Z234
          refine lv_if_ne (tgt := 50) hx hb dX6_lay_44 (by decide) (fun h => absurd (by decide) h) (fun _ => ?_)
          refine lv_ldc (v := (-1000000001)) hx hb hown (hts _ (zz_m 1 rfl)) dX6_lay_47 ?_
          exact zz_iret X hr hlk Z235 () (by simp [sp_lay]) [] [] (by decide +kernel) rfl rfl dX6_lay_49
        · have e110 : thing = 2 := e110
          subst e110
          refine zz_v (v := 1) (by decide) ?_
          refine lv_if_ne (tgt := 19) hx hb dX6_lay_13 (by decide) (fun _ => ?_) (fun h => absurd h (by decide))
          refine lv_aload_n hx hb dX6_lay_19 rfl (lv_at hl 0 rfl) ?_
          refine zz_get X Z220 0 rfl rfl (fun w h => List.mem_cons_of_mem _ (List.mem_append_left _ (List.mem_append_left _ (List.mem_append_left _ (List.mem_append_left _ (List.mem_append_right _ h)))))) 8 rfl (zz_m 2 rfl) rfl dX6_lay_20 ?_
          refine lv_iload_n hx hb dX6_lay_23 rfl (lv_at hl 1 rfl) ?_
          refine zz_ald X Z220 2 0 rfl rfl (zz_in 4 5 rfl) (v := .ref o4) aslf_4 dX6_lay_24 ?_
          refine lv_astore (lv' := [(4, .ref o4), (0, .ref x), (1, .int 4), (2, .int 2), (3, .int k)]) hx hb dX6_lay_25 hl (by decide) rfl (fun ls236 hl237 => ?_)
          clear hl
          refine lv_aload hx hb dX6_lay_27 (lv_at hl237 0 rfl) ?_
          refine zz_get X Z220 7 rfl rfl (fun w h => List.mem_cons_of_mem _ (List.mem_append_left _ (List.mem_append_left _ (List.mem_append_left _ (List.mem_append_right _ h))))) 0 rfl (zz_m 3 rfl) rfl dX6_lay_29 ?_
          refine lv_istore (lv' := [(5, .int 0), (4, .ref o4), (0, .ref x), (1, .int 4), (2, .int 2), (3, .int k)]) hx hb dX6_lay_32 hl237 (by decide) rfl (fun ls238 hl239 => ?_)
          clear hl237
          refine lv_iload_n hx hb dX6_lay_34 rfl (lv_at hl239 4 rfl) ?_
          refine lv_iconst (v := 1) hx hb dX6_lay_35 (by decide) ?_
          refine lv_icmp_ne (tgt := 70) hx hb dX6_lay_36 (by decide) (fun _ => ?_) (fun h => absurd h (by decide))
          refine lv_iload_n hx hb dX6_lay_70 rfl (lv_at hl239 4 rfl) ?_
          refine lv_iconst (v := 2) hx hb dX6_lay_71 (by decide) ?_
          refine lv_icmp_ne (tgt := 117) hx hb dX6_lay_72 (by decide) (fun h => absurd (by decide) h) (fun _ => ?_)
          refine lv_iload_n hx hb dX6_lay_75 rfl (lv_at hl239 5 rfl) ?_
          refine zz_ci (WC := []) (TC := []) (WR := [(x, .inr (6, [.ref tx0, .ref nb, .ref tb, .ref ib, .ref ah, .ref tp, .ref rd, .ref sh, .ref sl, .ref wt, .int 0, .int 0, .int 0, .int 0, .int 0])), (nb, .inr (0, [.ref ntx, .ref nst, .ref nct, .int 0, .int 0, .int 3, .int 0, .int 0, .int 10, .int 0, .int 0, .int 0, .int 0, .int 1])), (sl, .inl (ksl, 5, .inr (.inr (.inr (.inr slf))))), (o0, .inr (3, [.int 0, .int 0, .ref oa0, .ref ob0])), (o1, .inr (3, [.int 0, .int 0, .ref oa1, .ref ob1])), (o2, .inr (3, [.int 0, .int 0, .ref oa2, .ref ob2])), (o3, .inr (3, [.int 0, .int 0, .ref oa3, .ref ob3])), (o4, .inr (3, [.int 0, .int 0, .ref oa4, .ref ob4])), (sh, .inl (ksh, 4, .inr (.inr (.inr (.inr shf))))), (h0, .inr (2, [.int (-1), .int 0, .ref hv0])), (h1, .inr (2, [.int (-1), .int 0, .ref hv1])), (h2, .inr (2, [.int (-1), .int 0, .ref hv2])), (h3, .inr (2, [.int (-1), .int 0, .ref hv3]))]) (TR := [(ksl, .object RX3), (ksh, .object RX2)]) (k := 0) (n := 0) Z220 [] [0, 1, 2, 3, 4, 5, 6, 7, 8, 9, 10, 11, 12] [] [0, 1] rfl rfl (by decide +kernel) (by decide +kernel) (by decide +kernel) rfl rfl (fun Zc => va_runS (As := [.int k]) (rest := []) X (c_isSheet l D k H217.size) (va_cwS 1 hts gX6_lay_X6_isSheet rfl rfl rfl zh_X6_isSheet ⟨Nat.le_of_ble_eq_true rfl, Nat.le_of_ble_eq_true rfl⟩) (zz_pS Zc) rfl rfl hl239.1 rfl (lv_room (Nat.le_of_ble_eq_true rfl)) dX6_lay_76 ⟨Nat.le_of_ble_eq_true rfl, Nat.le_of_ble_eq_true rfl⟩) rfl rfl (fun r116 u114 H240 locs241 hw115 Z242 => ?_)
          clear Z220
          subst r116
          have Z243 : zz_S D A s [(x, .inr (6, [.ref tx0, .ref nb, .ref tb, .ref ib, .ref ah, .ref tp, .ref rd, .ref sh, .ref sl, .ref wt, .int 0, .int 0, .int 0, .int 0, .int 0])), (nb, .inr (0, [.ref ntx, .ref nst, .ref nct, .int 0, .int 0, .int 3, .int 0, .int 0, .int 10, .int 0, .int 0, .int 0, .int 0, .int 1])), (sl, .inl (ksl, 5, .inr (.inr (.inr (.inr slf))))), (o0, .inr (3, [.int 0, .int 0, .ref oa0, .ref ob0])), (o1, .inr (3, [.int 0, .int 0, .ref oa1, .ref ob1])), (o2, .inr (3, [.int 0, .int 0, .ref oa2, .ref ob2])), (o3, .inr (3, [.int 0, .int 0, .ref oa3, .ref ob3])), (o4, .inr (3, [.int 0, .int 0, .ref oa4, .ref ob4])), (sh, .inl (ksh, 4, .inr (.inr (.inr (.inr shf))))), (h0, .inr (2, [.int (-1), .int 0, .ref hv0])), (h1, .inr (2, [.int (-1), .int 0, .ref hv1])), (h2, .inr (2, [.int (-1), .int 0, .ref hv2])), (h3, .inr (2, [.int (-1), .int 0, .ref hv3]))] [(ksl, .object RX3), (ksh, .object RX2)] H240 locs241 := Z242
          clear Z242
          by_cases w117 : 0 ≤ k ∧ k ≤ 3
          · obtain ⟨j, hj, e118⟩ := zz_rng 3 w117 (by decide)
            rcases (show j = 0 ∨ j = 1 ∨ j = 2 ∨ j = 3 by omega) with rfl | rfl | rfl | rfl
            · have e118 : k = 0 := e118
              subst e118
              refine zz_v (v := 1) (by decide) ?_
              refine lv_if_ne (tgt := 85) hx hb dX6_lay_79 (by decide) (fun _ => ?_) (fun h => absurd h (by decide))
              refine lv_aload_n hx hb dX6_lay_85 rfl (lv_at hl239 2 rfl) ?_
              refine zz_get X Z243 0 rfl rfl (fun w h => List.mem_cons_of_mem _ (List.mem_append_left _ (List.mem_append_left _ (List.mem_append_left _ (List.mem_append_left _ (List.mem_append_right _ h)))))) 7 rfl (zz_m 7 rfl) rfl dX6_lay_86 ?_
              refine lv_iload_n hx hb dX6_lay_89 rfl (lv_at hl239 5 rfl) ?_
              refine zz_ald X Z243 8 1 rfl rfl (zz_in 0 4 rfl) (v := .ref h0) ashf_0 dX6_lay_90 ?_
              refine zz_ci (WC := [(h0, .inr (2, [.int (-1), .int 0, .ref hv0]))]) (TC := []) (WR := [(x, .inr (6, [.ref tx0, .ref nb, .ref tb, .ref ib, .ref ah, .ref tp, .ref rd, .ref sh, .ref sl, .ref wt, .int 0, .int 0, .int 0, .int 0, .int 0])), (nb, .inr (0, [.ref ntx, .ref nst, .ref nct, .int 0, .int 0, .int 3, .int 0, .int 0, .int 10, .int 0, .int 0, .int 0, .int 0, .int 1])), (sl, .inl (ksl, 5, .inr (.inr (.inr (.inr slf))))), (o0, .inr (3, [.int 0, .int 0, .ref oa0, .ref ob0])), (o1, .inr (3, [.int 0, .int 0, .ref oa1, .ref ob1])), (o2, .inr (3, [.int 0, .int 0, .ref oa2, .ref ob2])), (o3, .inr (3, [.int 0, .int 0, .ref oa3, .ref ob3])), (o4, .inr (3, [.int 0, .int 0, .ref oa4, .ref ob4])), (sh, .inl (ksh, 4, .inr (.inr (.inr (.inr shf))))), (h1, .inr (2, [.int (-1), .int 0, .ref hv1])), (h2, .inr (2, [.int (-1), .int 0, .ref hv2])), (h3, .inr (2, [.int (-1), .int 0, .ref hv3]))]) (TR := [(ksl, .object RX3), (ksh, .object RX2)]) (k := 0) (n := 0) Z243 [9] [0, 1, 2, 3, 4, 5, 6, 7, 8, 10, 11, 12] [] [0, 1] rfl rfl (by decide +kernel) (by decide +kernel) (by decide +kernel) rfl rfl (fun Zc => va_runV (As := []) (rest := []) X (c_isMissing l D h0 0 hv0 H240.size) (cwV 0 hts gX6_lay_X2_isMissing rfl rfl rfl ⟨rfl, zh_X2_isMissing⟩ ⟨Nat.le_of_ble_eq_true rfl, Nat.le_of_ble_eq_true rfl⟩) (zz_pV (ci := 2) Zc 0 rfl rfl) rfl rfl hl239.1 rfl (lv_room (Nat.le_of_ble_eq_true rfl)) dX6_lay_91 ⟨Nat.le_of_ble_eq_true rfl, Nat.le_of_ble_eq_true rfl⟩) rfl rfl (fun r121 u119 H244 locs245 hw120 Z246 => ?_)
              clear Z243
              have hw120 : r121 = 1 := hw120.trans (by decide)
              subst r121
              have Z247 : zz_S D A s [(x, .inr (6, [.ref tx0, .ref nb, .ref tb, .ref ib, .ref ah, .ref tp, .ref rd, .ref sh, .ref sl, .ref wt, .int 0, .int 0, .int 0, .int 0, .int 0])), (nb, .inr (0, [.ref ntx, .ref nst, .ref nct, .int 0, .int 0, .int 3, .int 0, .int 0, .int 10, .int 0, .int 0, .int 0, .int 0, .int 1])), (sl, .inl (ksl, 5, .inr (.inr (.inr (.inr slf))))), (o0, .inr (3, [.int 0, .int 0, .ref oa0, .ref ob0])), (o1, .inr (3, [.int 0, .int 0, .ref oa1, .ref ob1])), (o2, .inr (3, [.int 0, .int 0, .ref oa2, .ref ob2])), (o3, .inr (3, [.int 0, .int 0, .ref oa3, .ref ob3])), (o4, .inr (3, [.int 0, .int 0, .ref oa4, .ref ob4])), (sh, .inl (ksh, 4, .inr (.inr (.inr (.inr shf))))), (h1, .inr (2, [.int (-1), .int 0, .ref hv1])), (h2, .inr (2, [.int (-1), .int 0, .ref hv2])), (h3, .inr (2, [.int (-1), .int 0, .ref hv3])), (h0, .inr (2, [.int (-1), .int 0, .ref hv0]))] [(ksl, .object RX3), (ksh, .object RX2)] H244 locs245 := Z246
              clear Z246
              refine lv_if_eq (tgt := 100) hx hb dX6_lay_94 (by decide) (fun h => absurd h (by decide)) (fun _ => ?_)
              refine lv_ldc (v := (-1000000011)) hx hb hown (hts _ (zz_m 8 rfl)) dX6_lay_97 ?_
              exact zz_iret X hr hlk Z247 () (by simp [sp_lay]) [] [] (by decide +kernel) rfl rfl dX6_lay_99
            · have e118 : k = 1 := e118
              subst e118
              refine zz_v (v := 1) (by decide) ?_
              refine lv_if_ne (tgt := 85) hx hb dX6_lay_79 (by decide) (fun _ => ?_) (fun h => absurd h (by decide))
              refine lv_aload_n hx hb dX6_lay_85 rfl (lv_at hl239 2 rfl) ?_
              refine zz_get X Z243 0 rfl rfl (fun w h => List.mem_cons_of_mem _ (List.mem_append_left _ (List.mem_append_left _ (List.mem_append_left _ (List.mem_append_left _ (List.mem_append_right _ h)))))) 7 rfl (zz_m 7 rfl) rfl dX6_lay_86 ?_
              refine lv_iload_n hx hb dX6_lay_89 rfl (lv_at hl239 5 rfl) ?_
              refine zz_ald X Z243 8 1 rfl rfl (zz_in 1 4 rfl) (v := .ref h1) ashf_1 dX6_lay_90 ?_
              refine zz_ci (WC := [(h1, .inr (2, [.int (-1), .int 0, .ref hv1]))]) (TC := []) (WR := [(x, .inr (6, [.ref tx0, .ref nb, .ref tb, .ref ib, .ref ah, .ref tp, .ref rd, .ref sh, .ref sl, .ref wt, .int 0, .int 0, .int 0, .int 0, .int 0])), (nb, .inr (0, [.ref ntx, .ref nst, .ref nct, .int 0, .int 0, .int 3, .int 0, .int 0, .int 10, .int 0, .int 0, .int 0, .int 0, .int 1])), (sl, .inl (ksl, 5, .inr (.inr (.inr (.inr slf))))), (o0, .inr (3, [.int 0, .int 0, .ref oa0, .ref ob0])), (o1, .inr (3, [.int 0, .int 0, .ref oa1, .ref ob1])), (o2, .inr (3, [.int 0, .int 0, .ref oa2, .ref ob2])), (o3, .inr (3, [.int 0, .int 0, .ref oa3, .ref ob3])), (o4, .inr (3, [.int 0, .int 0, .ref oa4, .ref ob4])), (sh, .inl (ksh, 4, .inr (.inr (.inr (.inr shf))))), (h0, .inr (2, [.int (-1), .int 0, .ref hv0])), (h2, .inr (2, [.int (-1), .int 0, .ref hv2])), (h3, .inr (2, [.int (-1), .int 0, .ref hv3]))]) (TR := [(ksl, .object RX3), (ksh, .object RX2)]) (k := 0) (n := 0) Z243 [10] [0, 1, 2, 3, 4, 5, 6, 7, 8, 9, 11, 12] [] [0, 1] rfl rfl (by decide +kernel) (by decide +kernel) (by decide +kernel) rfl rfl (fun Zc => va_runV (As := []) (rest := []) X (c_isMissing l D h1 0 hv1 H240.size) (cwV 0 hts gX6_lay_X2_isMissing rfl rfl rfl ⟨rfl, zh_X2_isMissing⟩ ⟨Nat.le_of_ble_eq_true rfl, Nat.le_of_ble_eq_true rfl⟩) (zz_pV (ci := 2) Zc 0 rfl rfl) rfl rfl hl239.1 rfl (lv_room (Nat.le_of_ble_eq_true rfl)) dX6_lay_91 ⟨Nat.le_of_ble_eq_true rfl, Nat.le_of_ble_eq_true rfl⟩) rfl rfl (fun r124 u122 H248 locs249 hw123 Z250 => ?_)
              clear Z243
              have hw123 : r124 = 1 := hw123.trans (by decide)
              subst r124
              have Z251 : zz_S D A s [(x, .inr (6, [.ref tx0, .ref nb, .ref tb, .ref ib, .ref ah, .ref tp, .ref rd, .ref sh, .ref sl, .ref wt, .int 0, .int 0, .int 0, .int 0, .int 0])), (nb, .inr (0, [.ref ntx, .ref nst, .ref nct, .int 0, .int 0, .int 3, .int 0, .int 0, .int 10, .int 0, .int 0, .int 0, .int 0, .int 1])), (sl, .inl (ksl, 5, .inr (.inr (.inr (.inr slf))))), (o0, .inr (3, [.int 0, .int 0, .ref oa0, .ref ob0])), (o1, .inr (3, [.int 0, .int 0, .ref oa1, .ref ob1])), (o2, .inr (3, [.int 0, .int 0, .ref oa2, .ref ob2])), (o3, .inr (3, [.int 0, .int 0, .ref oa3, .ref ob3])), (o4, .inr (3, [.int 0, .int 0, .ref oa4, .ref ob4])), (sh, .inl (ksh, 4, .inr (.inr (.inr (.inr shf))))), (h0, .inr (2, [.int (-1), .int 0, .ref hv0])), (h2, .inr (2, [.int (-1), .int 0, .ref hv2])), (h3, .inr (2, [.int (-1), .int 0, .ref hv3])), (h1, .inr (2, [.int (-1), .int 0, .ref hv1]))] [(ksl, .object RX3), (ksh, .object RX2)] H248 locs249 := Z250
              clear Z250
              refine lv_if_eq (tgt := 100) hx hb dX6_lay_94 (by decide) (fun h => absurd h (by decide)) (fun _ => ?_)
              refine lv_ldc (v := (-1000000011)) hx hb hown (hts _ (zz_m 8 rfl)) dX6_lay_97 ?_
              exact zz_iret X hr hlk Z251 () (by simp [sp_lay]) [] [] (by decide +kernel) rfl rfl dX6_lay_99
            · have e118 : k = 2 := e118
              subst e118
              refine zz_v (v := 1) (by decide) ?_
              refine lv_if_ne (tgt := 85) hx hb dX6_lay_79 (by decide) (fun _ => ?_) (fun h => absurd h (by decide))
              refine lv_aload_n hx hb dX6_lay_85 rfl (lv_at hl239 2 rfl) ?_
              refine zz_get X Z243 0 rfl rfl (fun w h => List.mem_cons_of_mem _ (List.mem_append_left _ (List.mem_append_left _ (List.mem_append_left _ (List.mem_append_left _ (List.mem_append_right _ h)))))) 7 rfl (zz_m 7 rfl) rfl dX6_lay_86 ?_
              refine lv_iload_n hx hb dX6_lay_89 rfl (lv_at hl239 5 rfl) ?_
              refine zz_ald X Z243 8 1 rfl rfl (zz_in 2 4 rfl) (v := .ref h2) ashf_2 dX6_lay_90 ?_
              refine zz_ci (WC := [(h2, .inr (2, [.int (-1), .int 0, .ref hv2]))]) (TC := []) (WR := [(x, .inr (6, [.ref tx0, .ref nb, .ref tb, .ref ib, .ref ah, .ref tp, .ref rd, .ref sh, .ref sl, .ref wt, .int 0, .int 0, .int 0, .int 0, .int 0])), (nb, .inr (0, [.ref ntx, .ref nst, .ref nct, .int 0, .int 0, .int 3, .int 0, .int 0, .int 10, .int 0, .int 0, .int 0, .int 0, .int 1])), (sl, .inl (ksl, 5, .inr (.inr (.inr (.inr slf))))), (o0, .inr (3, [.int 0, .int 0, .ref oa0, .ref ob0])), (o1, .inr (3, [.int 0, .int 0, .ref oa1, .ref ob1])), (o2, .inr (3, [.int 0, .int 0, .ref oa2, .ref ob2])), (o3, .inr (3, [.int 0, .int 0, .ref oa3, .ref ob3])), (o4, .inr (3, [.int 0, .int 0, .ref oa4, .ref ob4])), (sh, .inl (ksh, 4, .inr (.inr (.inr (.inr shf))))), (h0, .inr (2, [.int (-1), .int 0, .ref hv0])), (h1, .inr (2, [.int (-1), .int 0, .ref hv1])), (h3, .inr (2, [.int (-1), .int 0, .ref hv3]))]) (TR := [(ksl, .object RX3), (ksh, .object RX2)]) (k := 0) (n := 0) Z243 [11] [0, 1, 2, 3, 4, 5, 6, 7, 8, 9, 10, 12] [] [0, 1] rfl rfl (by decide +kernel) (by decide +kernel) (by decide +kernel) rfl rfl (fun Zc => va_runV (As := []) (rest := []) X (c_isMissing l D h2 0 hv2 H240.size) (cwV 0 hts gX6_lay_X2_isMissing rfl rfl rfl ⟨rfl, zh_X2_isMissing⟩ ⟨Nat.le_of_ble_eq_true rfl, Nat.le_of_ble_eq_true rfl⟩) (zz_pV (ci := 2) Zc 0 rfl rfl) rfl rfl hl239.1 rfl (lv_room (Nat.le_of_ble_eq_true rfl)) dX6_lay_91 ⟨Nat.le_of_ble_eq_true rfl, Nat.le_of_ble_eq_true rfl⟩) rfl rfl (fun r127 u125 H252 locs253 hw126 Z254 => ?_)
              clear Z243
              have hw126 : r127 = 1 := hw126.trans (by decide)
              subst r127
              have Z255 : zz_S D A s [(x, .inr (6, [.ref tx0, .ref nb, .ref tb, .ref ib, .ref ah, .ref tp, .ref rd, .ref sh, .ref sl, .ref wt, .int 0, .int 0, .int 0, .int 0, .int 0])), (nb, .inr (0, [.ref ntx, .ref nst, .ref nct, .int 0, .int 0, .int 3, .int 0, .int 0, .int 10, .int 0, .int 0, .int 0, .int 0, .int 1])), (sl, .inl (ksl, 5, .inr (.inr (.inr (.inr slf))))), (o0, .inr (3, [.int 0, .int 0, .ref oa0, .ref ob0])), (o1, .inr (3, [.int 0, .int 0, .ref oa1, .ref ob1])), (o2, .inr (3, [.int 0, .int 0, .ref oa2, .ref ob2])), (o3, .inr (3, [.int 0, .int 0, .ref oa3, .ref ob3])), (o4, .inr (3, [.int 0, .int 0, .ref oa4, .ref ob4])), (sh, .inl (ksh, 4, .inr (.inr (.inr (.inr shf))))), (h0, .inr (2, [.int (-1), .int 0, .ref hv0])), (h1, .inr (2, [.int (-1), .int 0, .ref hv1])), (h3, .inr (2, [.int (-1), .int 0, .ref hv3])), (h2, .inr (2, [.int (-1), .int 0, .ref hv2]))] [(ksl, .object RX3), (ksh, .object RX2)] H252 locs253 := Z254
              clear Z254
              refine lv_if_eq (tgt := 100) hx hb dX6_lay_94 (by decide) (fun h => absurd h (by decide)) (fun _ => ?_)
              refine lv_ldc (v := (-1000000011)) hx hb hown (hts _ (zz_m 8 rfl)) dX6_lay_97 ?_
              exact zz_iret X hr hlk Z255 () (by simp [sp_lay]) [] [] (by decide +kernel) rfl rfl dX6_lay_99
            · have e118 : k = 3 := e118
              subst e118
              refine zz_v (v := 1) (by decide) ?_
              refine lv_if_ne (tgt := 85) hx hb dX6_lay_79 (by decide) (fun _ => ?_) (fun h => absurd h (by decide))
              refine lv_aload_n hx hb dX6_lay_85 rfl (lv_at hl239 2 rfl) ?_
              refine zz_get X Z243 0 rfl rfl (fun w h => List.mem_cons_of_mem _ (List.mem_append_left _ (List.mem_append_left _ (List.mem_append_left _ (List.mem_append_left _ (List.mem_append_right _ h)))))) 7 rfl (zz_m 7 rfl) rfl dX6_lay_86 ?_
              refine lv_iload_n hx hb dX6_lay_89 rfl (lv_at hl239 5 rfl) ?_
              refine zz_ald X Z243 8 1 rfl rfl (zz_in 3 4 rfl) (v := .ref h3) ashf_3 dX6_lay_90 ?_
              refine zz_ci (WC := [(h3, .inr (2, [.int (-1), .int 0, .ref hv3]))]) (TC := []) (WR := [(x, .inr (6, [.ref tx0, .ref nb, .ref tb, .ref ib, .ref ah, .ref tp, .ref rd, .ref sh, .ref sl, .ref wt, .int 0, .int 0, .int 0, .int 0, .int 0])), (nb, .inr (0, [.ref ntx, .ref nst, .ref nct, .int 0, .int 0, .int 3, .int 0, .int 0, .int 10, .int 0, .int 0, .int 0, .int 0, .int 1])), (sl, .inl (ksl, 5, .inr (.inr (.inr (.inr slf))))), (o0, .inr (3, [.int 0, .int 0, .ref oa0, .ref ob0])), (o1, .inr (3, [.int 0, .int 0, .ref oa1, .ref ob1])), (o2, .inr (3, [.int 0, .int 0, .ref oa2, .ref ob2])), (o3, .inr (3, [.int 0, .int 0, .ref oa3, .ref ob3])), (o4, .inr (3, [.int 0, .int 0, .ref oa4, .ref ob4])), (sh, .inl (ksh, 4, .inr (.inr (.inr (.inr shf))))), (h0, .inr (2, [.int (-1), .int 0, .ref hv0])), (h1, .inr (2, [.int (-1), .int 0, .ref hv1])), (h2, .inr (2, [.int (-1), .int 0, .ref hv2]))]) (TR := [(ksl, .object RX3), (ksh, .object RX2)]) (k := 0) (n := 0) Z243 [12] [0, 1, 2, 3, 4, 5, 6, 7, 8, 9, 10, 11] [] [0, 1] rfl rfl (by decide +kernel) (by decide +kernel) (by decide +kernel) rfl rfl (fun Zc => va_runV (As := []) (rest := []) X (c_isMissing l D h3 0 hv3 H240.size) (cwV 0 hts gX6_lay_X2_isMissing rfl rfl rfl ⟨rfl, zh_X2_isMissing⟩ ⟨Nat.le_of_ble_eq_true rfl, Nat.le_of_ble_eq_true rfl⟩) (zz_pV (ci := 2) Zc 0 rfl rfl) rfl rfl hl239.1 rfl (lv_room (Nat.le_of_ble_eq_true rfl)) dX6_lay_91 ⟨Nat.le_of_ble_eq_true rfl, Nat.le_of_ble_eq_true rfl⟩) rfl rfl (fun r130 u128 H256 locs257 hw129 Z258 => ?_)
              clear Z243
              have hw129 : r130 = 1 := hw129.trans (by decide)
              subst r130
              have Z259 : zz_S D A s [(x, .inr (6, [.ref tx0, .ref nb, .ref tb, .ref ib, .ref ah, .ref tp, .ref rd, .ref sh, .ref sl, .ref wt, .int 0, .int 0, .int 0, .int 0, .int 0])), (nb, .inr (0, [.ref ntx, .ref nst, .ref nct, .int 0, .int 0, .int 3, .int 0, .int 0, .int 10, .int 0, .int 0, .int 0, .int 0, .int 1])), (sl, .inl (ksl, 5, .inr (.inr (.inr (.inr slf))))), (o0, .inr (3, [.int 0, .int 0, .ref oa0, .ref ob0])), (o1, .inr (3, [.int 0, .int 0, .ref oa1, .ref ob1])), (o2, .inr (3, [.int 0, .int 0, .ref oa2, .ref ob2])), (o3, .inr (3, [.int 0, .int 0, .ref oa3, .ref ob3])), (o4, .inr (3, [.int 0, .int 0, .ref oa4, .ref ob4])), (sh, .inl (ksh, 4, .inr (.inr (.inr (.inr shf))))), (h0, .inr (2, [.int (-1), .int 0, .ref hv0])), (h1, .inr (2, [.int (-1), .int 0, .ref hv1])), (h2, .inr (2, [.int (-1), .int 0, .ref hv2])), (h3, .inr (2, [.int (-1), .int 0, .ref hv3]))] [(ksl, .object RX3), (ksh, .object RX2)] H256 locs257 := Z258
              clear Z258
              refine lv_if_eq (tgt := 100) hx hb dX6_lay_94 (by decide) (fun h => absurd h (by decide)) (fun _ => ?_)
              refine lv_ldc (v := (-1000000011)) hx hb hown (hts _ (zz_m 8 rfl)) dX6_lay_97 ?_
              exact zz_iret X hr hlk Z259 () (by simp [sp_lay]) [] [] (by decide +kernel) rfl rfl dX6_lay_99
          · refine zz_v (v := 0) (zz_wiF w117) ?_
            refine lv_if_ne (tgt := 85) hx hb dX6_lay_79 (by decide) (fun h => absurd (by decide) h) (fun _ => ?_)
            refine lv_ldc (v := (-1000000001)) hx hb hown (hts _ (zz_m 1 rfl)) dX6_lay_82 ?_
            exact zz_iret X hr hlk Z243 () (by simp [sp_lay, w117]) [] [] (by decide +kernel) rfl rfl dX6_lay_84
        · have e110 : thing = 3 := e110
          subst e110
          refine zz_v (v := 1) (by decide) ?_
          refine lv_if_ne (tgt := 19) hx hb dX6_lay_13 (by decide) (fun _ => ?_) (fun h => absurd h (by decide))
          refine lv_aload_n hx hb dX6_lay_19 rfl (lv_at hl 0 rfl) ?_
          refine zz_get X Z220 0 rfl rfl (fun w h => List.mem_cons_of_mem _ (List.mem_append_left _ (List.mem_append_left _ (List.mem_append_left _ (List.mem_append_left _ (List.mem_append_right _ h)))))) 8 rfl (zz_m 2 rfl) rfl dX6_lay_20 ?_
          refine lv_iload_n hx hb dX6_lay_23 rfl (lv_at hl 1 rfl) ?_
          refine zz_ald X Z220 2 0 rfl rfl (zz_in 4 5 rfl) (v := .ref o4) aslf_4 dX6_lay_24 ?_
          refine lv_astore (lv' := [(4, .ref o4), (0, .ref x), (1, .int 4), (2, .int 3), (3, .int k)]) hx hb dX6_lay_25 hl (by decide) rfl (fun ls260 hl261 => ?_)
          clear hl
          refine lv_aload hx hb dX6_lay_27 (lv_at hl261 0 rfl) ?_
          refine zz_get X Z220 7 rfl rfl (fun w h => List.mem_cons_of_mem _ (List.mem_append_left _ (List.mem_append_left _ (List.mem_append_left _ (List.mem_append_right _ h))))) 0 rfl (zz_m 3 rfl) rfl dX6_lay_29 ?_
          refine lv_istore (lv' := [(5, .int 0), (4, .ref o4), (0, .ref x), (1, .int 4), (2, .int 3), (3, .int k)]) hx hb dX6_lay_32 hl261 (by decide) rfl (fun ls262 hl263 => ?_)
          clear hl261
          refine lv_iload_n hx hb dX6_lay_34 rfl (lv_at hl263 4 rfl) ?_
          refine lv_iconst (v := 1) hx hb dX6_lay_35 (by decide) ?_
          refine lv_icmp_ne (tgt := 70) hx hb dX6_lay_36 (by decide) (fun _ => ?_) (fun h => absurd h (by decide))
          refine lv_iload_n hx hb dX6_lay_70 rfl (lv_at hl263 4 rfl) ?_
          refine lv_iconst (v := 2) hx hb dX6_lay_71 (by decide) ?_
          refine lv_icmp_ne (tgt := 117) hx hb dX6_lay_72 (by decide) (fun _ => ?_) (fun h => absurd h (by decide))
          refine lv_iload_n hx hb dX6_lay_117 rfl (lv_at hl263 4 rfl) ?_
          refine lv_iconst (v := 3) hx hb dX6_lay_118 (by decide) ?_
          refine lv_icmp_ne (tgt := 128) hx hb dX6_lay_119 (by decide) (fun h => absurd (by decide) h) (fun _ => ?_)
          refine lv_aload hx hb dX6_lay_122 (lv_at hl263 1 rfl) ?_
          refine lv_iload_n hx hb dX6_lay_124 rfl (lv_at hl263 5 rfl) ?_
          refine zz_put (WS' := [(x, .inr (6, [.ref tx0, .ref nb, .ref tb, .ref ib, .ref ah, .ref tp, .ref rd, .ref sh, .ref sl, .ref wt, .int 0, .int 0, .int 0, .int 0, .int 0])), (nb, .inr (0, [.ref ntx, .ref nst, .ref nct, .int 0, .int 0, .int 3, .int 0, .int 0, .int 10, .int 0, .int 0, .int 0, .int 0, .int 1])), (sl, .inl (ksl, 5, .inr (.inr (.inr (.inr slf))))), (o0, .inr (3, [.int 0, .int 0, .ref oa0, .ref ob0])), (o1, .inr (3, [.int 0, .int 0, .ref oa1, .ref ob1])), (o2, .inr (3, [.int 0, .int 0, .ref oa2, .ref ob2])), (o3, .inr (3, [.int 0, .int 0, .ref oa3, .ref ob3])), (o4, .inr (3, [.int 0, .int k, .ref oa4, .ref ob4])), (sh, .inl (ksh, 4, .inr (.inr (.inr (.inr shf))))), (h0, .inr (2, [.int (-1), .int 0, .ref hv0])), (h1, .inr (2, [.int (-1), .int 0, .ref hv1])), (h2, .inr (2, [.int (-1), .int 0, .ref hv2])), (h3, .inr (2, [.int (-1), .int 0, .ref hv3]))]) X Z220 7 rfl rfl (fun w h => List.mem_cons_of_mem _ (List.mem_append_left _ (List.mem_append_left _ (List.mem_append_left _ (List.mem_append_right _ h))))) tyX3 tyX3_ok nmX3 1 rfl (zz_m 10 rfl) rfl rfl rfl rfl dX6_lay_125 rfl (fun H264 locs265 Z266 => ?_)
          clear Z220
          refine lv_aload hx hb dX6_lay_128 (lv_at hl263 1 rfl) ?_
          refine lv_iload_n hx hb dX6_lay_130 rfl (lv_at hl263 4 rfl) ?_
          refine zz_put (WS' := [(x, .inr (6, [.ref tx0, .ref nb, .ref tb, .ref ib, .ref ah, .ref tp, .ref rd, .ref sh, .ref sl, .ref wt, .int 0, .int 0, .int 0, .int 0, .int 0])), (nb, .inr (0, [.ref ntx, .ref nst, .ref nct, .int 0, .int 0, .int 3, .int 0, .int 0, .int 10, .int 0, .int 0, .int 0, .int 0, .int 1])), (sl, .inl (ksl, 5, .inr (.inr (.inr (.inr slf))))), (o0, .inr (3, [.int 0, .int 0, .ref oa0, .ref ob0])), (o1, .inr (3, [.int 0, .int 0, .ref oa1, .ref ob1])), (o2, .inr (3, [.int 0, .int 0, .ref oa2, .ref ob2])), (o3, .inr (3, [.int 0, .int 0, .ref oa3, .ref ob3])), (o4, .inr (3, [.int 3, .int k, .ref oa4, .ref ob4])), (sh, .inl (ksh, 4, .inr (.inr (.inr (.inr shf))))), (h0, .inr (2, [.int (-1), .int 0, .ref hv0])), (h1, .inr (2, [.int (-1), .int 0, .ref hv1])), (h2, .inr (2, [.int (-1), .int 0, .ref hv2])), (h3, .inr (2, [.int (-1), .int 0, .ref hv3]))]) X Z266 7 rfl rfl (fun w h => List.mem_cons_of_mem _ (List.mem_append_left _ (List.mem_append_left _ (List.mem_append_left _ (List.mem_append_right _ h))))) tyX3 tyX3_ok nmX3 0 rfl (zz_m 3 rfl) rfl rfl rfl rfl dX6_lay_131 rfl (fun H267 locs268 Z269 => ?_)
          clear Z266
          refine lv_iload hx hb dX6_lay_134 (lv_at hl263 0 rfl) ?_
          exact zz_iret X hr hlk Z269 () (by simp [sp_lay]) [] [] (by decide +kernel) rfl rfl dX6_lay_136
      · refine zz_v (v := 0) (zz_wiF w109) ?_
        refine lv_if_ne (tgt := 19) hx hb dX6_lay_13 (by decide) (fun h => absurd (by decide) h) (fun _ => ?_)
        refine lv_ldc (v := (-1000000001)) hx hb hown (hts _ (zz_m 1 rfl)) dX6_lay_16 ?_
        exact zz_iret X hr hlk Z220 () (by simp [sp_lay, w109]) [] [] (by decide +kernel) rfl rfl dX6_lay_18
  · refine zz_v (v := 0) (zz_wiF w4) ?_
    refine lv_if_eq (tgt := 16) hx hb dX6_lay_4 (by decide) (fun _ => ?_) (fun h => absurd (by decide) h)
    refine lv_ldc (v := (-1000000001)) hx hb hown (hts _ (zz_m 1 rfl)) dX6_lay_16 ?_
    exact zz_iret X hr hlk Z4 () (by simp [sp_lay, w4]) [] [] (by decide +kernel) rfl rfl dX6_lay_18
